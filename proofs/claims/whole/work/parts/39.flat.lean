/-! every place of a row of terms begins a term; the class's signs and ours -/
theorem Ts_at : ∀ {P : List Int} {n i : Nat}, Ts n P → i < P.length → Ts 1 (tm P i)
  | [], _, _, _, h => absurd h (Nat.not_lt_zero _)
  | s :: t, n, 0, h, _ => by
    obtain ⟨m, rfl, hh⟩ := Ts_cons h
    rw [Nat.add_comm] at hh
    obtain ⟨a, b, e, h1, h2⟩ := Ts_split hh
    show Ts (0 + ar s) (tk (0 + ar s) t)
    rw [Nat.zero_add, e, tk_app h1]
    exact h1
  | s :: t, n, i + 1, h, hi => by
    obtain ⟨m, rfl, hh⟩ := Ts_cons h
    exact Ts_at (P := t) hh (by simpa using hi)
/-- the class's sign as the reference's -/
def cv (s : Int) : Int := if 128 ≤ s then (s - 128) / 4 else if s = 106 then 99 else s + 100
/-- a sign of the class -/
def vs (s : Int) : Prop := (128 ≤ s ∧ s < 520 ∧ s % 4 = 0) ∨ s = 106 ∨ (0 ≤ s ∧ s < 104)
theorem vs_lo {s : Int} (h : vs s) : 0 ≤ s := by
  rcases h with h | h | h <;> omega
theorem vs_hi {s : Int} (h : vs s) : s < 520 := by
  rcases h with h | h | h <;> omega
theorem cv_var {s : Int} (h : vs s) : cv s < 99 ↔ 128 ≤ s := by
  unfold cv
  rcases h with h | h | h
  · rw [if_pos h.1]
    omega
  · rw [if_neg (by omega), if_pos h]
    omega
  · rw [if_neg (by omega), if_neg (by omega)]
    omega
theorem cv_ar {s : Int} (h : vs s) : (ar (cv s) : Int) = s % 4 := by
  rcases h with h | rfl | h
  · have e : cv s = (s - 128) / 4 := if_pos h.1
    rw [e, ar_v (by omega)]
    omega
  · rfl
  · have e : cv s = s + 100 := by
      unfold cv
      rw [if_neg (by omega), if_neg (by omega)]
    rw [e]
    unfold ar
    rw [if_neg (by omega), if_neg (by omega)]
    omega
theorem cv_inj {s t : Int} (h : vs s) (g : vs t) (e : cv s = cv t) : s = t := by
  unfold cv at e
  rcases h with h | h | h <;> rcases g with g | g | g <;> (repeat split at e) <;> omega
theorem cv_hi {s : Int} (h : vs s) : cv s < 300 := by
  unfold cv
  rcases h with h | h | h
  · rw [if_pos h.1]
    omega
  · rw [if_neg (by omega), if_pos h]
    omega
  · rw [if_neg (by omega), if_neg (by omega)]
    omega
theorem cv_lo {s : Int} (h : vs s) : 0 ≤ cv s := by
  unfold cv
  rcases h with h | h | h
  · rw [if_pos h.1]
    omega
  · rw [if_neg (by omega), if_pos h]
    omega
  · rw [if_neg (by omega), if_neg (by omega)]
    omega
/-- the first l signs of a form, as ours -/
def fP (S : List Int) (l : Int) : List Int := (S.take l.toNat).map cv
theorem fP_len {S : List Int} {l : Int} (h : l ≤ S.length) : (fP S l).length = l.toNat := by
  unfold fP
  rw [List.length_map, List.length_take]
  omega
theorem fP_pz {S : List Int} {l q : Int} (h0 : 0 ≤ q) (h1 : q < l) (h2 : l ≤ S.length) : pz (fP S l) q.toNat = cv (gZ S q) := by
  unfold pz fP gZ
  rw [List.getD_eq_getElem?_getD, List.getElem?_map, List.getElem?_take, if_pos (by omega), List.getD_eq_getElem?_getD, List.getElem?_eq_getElem (by omega)]
  rfl
theorem gZ_pz (S : List Int) (q : Int) : gZ S q = pz S q.toNat := rfl
theorem Ts_len : ∀ {t : List Int} {n : Nat}, Ts n t → n ≤ t.length
  | [], n, h => by
    rw [Ts_nil] at h
    omega
  | s :: t, n, h => by
    obtain ⟨m, rfl, hh⟩ := Ts_cons h
    have := Ts_len hh
    simp only [List.length_cons]
    omega
/-- one sign further in the row of wanted terms -/
theorem tk_step {P : List Int} {t q : Int} {k : Nat} (h0 : 0 ≤ t) (h1 : 0 ≤ q) (hk : (tk t.toNat (P.drop q.toNat)).length = k + 1) (hT : Ts t.toNat (tk t.toNat (P.drop q.toNat))) :
    q < P.length ∧ 0 < t ∧ t ≤ P.length ∧ (tk (t + ar (pz P q.toNat) - 1).toNat (P.drop (q + 1).toNat)).length = k ∧ Ts (t + ar (pz P q.toNat) - 1).toNat (tk (t + ar (pz P q.toNat) - 1).toNat (P.drop (q + 1).toNat)) ∧ 0 ≤ t + ar (pz P q.toNat) - 1 := by
  have hq : q.toNat < P.length := by
    refine Nat.lt_of_not_le (fun hle => ?_)
    rw [List.drop_eq_nil_of_le hle] at hk
    cases ht : t.toNat <;> simp [ht, tk] at hk
  have ht : t.toNat ≠ 0 := fun e => by
    rw [e, tk_0] at hk
    simp at hk
  have hle : (tk t.toNat (P.drop q.toNat)).length ≤ P.length := by
    obtain ⟨b, e⟩ := tk_pre (P.drop q.toNat) t.toNat
    have := congrArg List.length e
    rw [List.length_append, List.length_drop] at this
    omega
  have hlen := Ts_len hT
  obtain ⟨n, hn⟩ : ∃ n, t.toNat = n + 1 := ⟨t.toNat - 1, by omega⟩
  have e1 : tk t.toNat (P.drop q.toNat) = pz P q.toNat :: tk (n + ar (pz P q.toNat)) (P.drop (q.toNat + 1)) := by rw [hn, pz_drop hq]; rfl
  have eq1 : (q + 1).toNat = q.toNat + 1 := by omega
  have et1 : (t + (ar (pz P q.toNat) : Int) - 1).toNat = n + ar (pz P q.toNat) := by omega
  refine ⟨by omega, by omega, by omega, ?_, ?_, by omega⟩
  · rw [et1, eq1]
    rw [e1] at hk
    simpa using hk
  · rw [et1, eq1]
    rw [e1, hn] at hT
    exact hT
