/-! a search over choices: in depth, or by counting -/
section MT
variable {β : Type} (mt : Nat → Nat → β → Option β) (m : Nat)
/-- the choices cs for the literals from k on -/
def rnC : List Nat → Nat → β → Bool
  | [], _, _ => true
  | c :: cs, k, b => match mt k c b with
    | none => false
    | some b' => rnC cs (k + 1) b'
/-- the first literal that its choice does not fit -/
def ftC : List Nat → Nat → β → Nat
  | [], k, _ => k
  | c :: cs, k, b => match mt k c b with
    | none => k
    | some b' => ftC cs (k + 1) b'
def dfs : Nat → Nat → β → Bool
  | 0, _, _ => true
  | r + 1, k, b => (List.range m).any (fun c => match mt k c b with
    | none => false
    | some b' => dfs r (k + 1) b')
theorem dfs_iff : ∀ (r k : Nat) (b : β), dfs mt m r k b = true ↔ ∃ cs : List Nat, cs.length = r ∧ (∀ c ∈ cs, c < m) ∧ rnC mt cs k b = true
  | 0, k, b => ⟨fun _ => ⟨[], rfl, (fun _ h => by cases h), rfl⟩, fun _ => rfl⟩
  | r + 1, k, b => by
    unfold dfs
    rw [List.any_eq_true]
    constructor
    · rintro ⟨c, hc, h⟩
      cases hm : mt k c b with
      | none => rw [hm] at h; cases h
      | some b' =>
        rw [hm] at h
        obtain ⟨cs, h1, h2, h3⟩ := (dfs_iff r (k + 1) b').mp h
        refine ⟨c :: cs, by rw [List.length_cons, h1], fun x hx => ?_, ?_⟩
        · rcases List.mem_cons.mp hx with rfl | hx
          · exact List.mem_range.mp hc
          · exact h2 x hx
        · unfold rnC
          rw [hm]
          exact h3
    · rintro ⟨cs, h1, h2, h3⟩
      cases cs with
      | nil => cases h1
      | cons c cs =>
        refine ⟨c, List.mem_range.mpr (h2 c List.mem_cons_self), ?_⟩
        unfold rnC at h3
        cases hm : mt k c b with
        | none => rw [hm] at h3; cases h3
        | some b' =>
          rw [hm] at h3
          exact (dfs_iff r (k + 1) b').mpr ⟨cs, by simpa using h1, fun x hx => h2 x (List.mem_cons_of_mem _ hx), h3⟩
theorem ftC_le : ∀ (cs : List Nat) (k : Nat) (b : β), k ≤ ftC mt cs k b ∧ ftC mt cs k b ≤ k + cs.length
  | [], k, b => ⟨Nat.le_refl _, Nat.le_refl _⟩
  | c :: cs, k, b => by
    unfold ftC
    cases mt k c b with
    | none => exact ⟨Nat.le_refl _, Nat.le_add_right _ _⟩
    | some b' =>
      have := ftC_le cs (k + 1) b'
      dsimp only
      rw [List.length_cons]
      exact ⟨by omega, by omega⟩
theorem ftC_all : ∀ {cs : List Nat} {k : Nat} {b : β}, ftC mt cs k b = k + cs.length → rnC mt cs k b = true
  | [], _, _, _ => rfl
  | c :: cs, k, b, h => by
    unfold ftC at h
    unfold rnC
    cases hm : mt k c b with
    | none =>
      rw [hm] at h
      simp only [List.length_cons] at h
      omega
    | some b' =>
      rw [hm] at h
      have h2 : ftC mt cs (k + 1) b' = k + (c :: cs).length := h
      exact ftC_all (by rw [h2, List.length_cons]; omega)
/-- choices that are the same up to the first misfit don't fit either -/
theorem ftC_same : ∀ {cs ds : List Nat} {k j : Nat} {b : β}, ftC mt cs k b = k + j → j < cs.length → ds.take (j + 1) = cs.take (j + 1) → rnC mt ds k b = false
  | [], _, _, _, _, _, hj, _ => by simp at hj
  | c :: cs, [], k, j, b, _, _, e => by simp at e
  | c :: cs, d :: ds, k, j, b, h, hj, e => by
    rw [List.take_succ_cons, List.take_succ_cons, List.cons.injEq] at e
    obtain ⟨rfl, e⟩ := e
    unfold ftC at h
    unfold rnC
    cases hm : mt k d b with
    | none => rfl
    | some b' =>
      rw [hm] at h
      dsimp only at h ⊢
      have hle := (ftC_le mt cs (k + 1) b').1
      obtain ⟨i, rfl⟩ : ∃ i, j = i + 1 := ⟨j - 1, by omega⟩
      exact ftC_same (by rw [h]; omega) (by simpa using hj) e
end MT
/-- a row of figures as a number, the first the greatest -/
def vl (m : Nat) : List Nat → Nat
  | [] => 0
  | c :: t => c * m ^ t.length + vl m t
theorem vl_lt {m : Nat} : ∀ {cs : List Nat}, (∀ c ∈ cs, c < m) → vl m cs < m ^ cs.length
  | [], _ => by simp [vl]
  | c :: t, h => by
    have h1 := vl_lt (cs := t) (fun x hx => h x (List.mem_cons_of_mem _ hx))
    have h2 := h c List.mem_cons_self
    show c * m ^ t.length + vl m t < m ^ (t.length + 1)
    have h3 : (c + 1) * m ^ t.length ≤ m * m ^ t.length := Nat.mul_le_mul_right _ h2
    rw [Nat.pow_succ, Nat.mul_comm (m ^ t.length) m]
    rw [Nat.add_mul, Nat.one_mul] at h3
    omega
theorem vl_app {m : Nat} : ∀ (a b : List Nat), vl m (a ++ b) = vl m a * m ^ b.length + vl m b
  | [], b => by simp [vl]
  | c :: t, b => by
    show c * m ^ (t ++ b).length + vl m (t ++ b) = (c * m ^ t.length + vl m t) * m ^ b.length + vl m b
    rw [vl_app t b, List.length_append, Nat.pow_add, Nat.add_mul, Nat.mul_assoc]
    omega
theorem vl_inj {m : Nat} : ∀ {a b : List Nat}, a.length = b.length → (∀ c ∈ a, c < m) → (∀ c ∈ b, c < m) → vl m a = vl m b → a = b
  | [], [], _, _, _, _ => rfl
  | [], _ :: _, h, _, _, _ => by cases h
  | _ :: _, [], h, _, _, _ => by cases h
  | c :: t, d :: u, h, ha, hb, e => by
    have hl : t.length = u.length := by simpa using h
    have h1 := vl_lt (m := m) (cs := t) (fun x hx => ha x (List.mem_cons_of_mem _ hx))
    have h2 := vl_lt (m := m) (cs := u) (fun x hx => hb x (List.mem_cons_of_mem _ hx))
    have e' : c * m ^ t.length + vl m t = d * m ^ u.length + vl m u := e
    rw [← hl] at e' h2
    have hcd : c = d := by
      rcases Nat.lt_trichotomy c d with g | g | g
      · have : (c + 1) * m ^ t.length ≤ d * m ^ t.length := Nat.mul_le_mul_right _ g
        rw [Nat.add_mul, Nat.one_mul] at this
        omega
      · exact g
      · have : (d + 1) * m ^ t.length ≤ c * m ^ t.length := Nat.mul_le_mul_right _ g
        rw [Nat.add_mul, Nat.one_mul] at this
        omega
    subst hcd
    rw [vl_inj hl (fun x hx => ha x (List.mem_cons_of_mem _ hx)) (fun x hx => hb x (List.mem_cons_of_mem _ hx)) (by omega)]
/-- between a row of figures and the next number of its first j + 1 figures lie those alone that begin alike -/
theorem vl_gap {m j : Nat} {cs ds : List Nat} (hl : ds.length = cs.length) (hj : j < cs.length) (hc : ∀ c ∈ cs, c < m) (hd : ∀ c ∈ ds, c < m) (h1 : vl m cs ≤ vl m ds) (h2 : vl m ds < (vl m (cs.take (j + 1)) + 1) * m ^ (cs.length - (j + 1))) : ds.take (j + 1) = cs.take (j + 1) := by
  have e1 : cs = cs.take (j + 1) ++ cs.drop (j + 1) := (List.take_append_drop _ _).symm
  have e2 : ds = ds.take (j + 1) ++ ds.drop (j + 1) := (List.take_append_drop _ _).symm
  have v1 := vl_app (m := m) (cs.take (j + 1)) (cs.drop (j + 1))
  have v2 := vl_app (m := m) (ds.take (j + 1)) (ds.drop (j + 1))
  rw [← e1, List.length_drop] at v1
  rw [← e2, List.length_drop, hl] at v2
  have b1 := vl_lt (m := m) (cs := cs.drop (j + 1)) (fun x hx => hc x (List.mem_of_mem_drop hx))
  have b2 := vl_lt (m := m) (cs := ds.drop (j + 1)) (fun x hx => hd x (List.mem_of_mem_drop hx))
  rw [List.length_drop] at b1 b2
  rw [hl] at b2
  have hl3 : (ds.take (j + 1)).length = (cs.take (j + 1)).length := by rw [List.length_take, List.length_take, hl]
  refine vl_inj hl3 (fun x hx => hd x (List.mem_of_mem_take hx)) (fun x hx => hc x (List.mem_of_mem_take hx)) ?_
  generalize m ^ (cs.length - (j + 1)) = M at *
  generalize vl m (cs.take (j + 1)) = A at *
  generalize vl m (ds.take (j + 1)) = B at *
  rcases Nat.lt_trichotomy B A with g | g | g
  · have : (B + 1) * M ≤ A * M := Nat.mul_le_mul_right _ g
    rw [Nat.add_mul, Nat.one_mul] at this
    omega
  · exact g
  · have : (A + 1) * M ≤ B * M := Nat.mul_le_mul_right _ g
    omega
