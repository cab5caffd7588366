/-! pairs of places as pairs of terms; what a step of unifying does to them -/
def pn (p : Nat) : Nat → List Nat
  | 0 => []
  | r + 1 => (3 * p + r) :: pn p r
theorem pn_len (p : Nat) : ∀ r, (pn p r).length = r
  | 0 => rfl
  | r + 1 => by
    show (pn p r).length + 1 = _
    rw [pn_len p r]
theorem pn_mem {p : Nat} : ∀ {r h : Nat}, h ∈ pn p r → ∃ j, j < r ∧ h = 3 * p + j
  | 0, _, hh => by cases hh
  | r + 1, h, hh => by
    rcases List.mem_cons.mp hh with rfl | hh
    · exact ⟨r, by omega, rfl⟩
    · obtain ⟨j, h1, h2⟩ := pn_mem hh
      exact ⟨j, by omega, h2⟩
theorem SK_push {ρ : Int → List Int} {S Lf : List Int} {G : List Nat} {p : Nat} (h : SK ρ S Lf G) (hp : p < 88) (hG : ∀ x ∈ G, x < 264 ∧ Bel ρ S (x / 3) p) : ∀ {r : Nat}, r ≤ 3 → (∀ j : Nat, j < r → Bel ρ S p (gZ Lf ((G.length + j : Nat) : Int)).toNat) → SK ρ S Lf (pn p r ++ G)
  | 0, _, _ => h
  | r + 1, hr, hb => by
    have ih := SK_push h hp hG (r := r) (by omega) (fun j hj => hb j (by omega))
    refine ⟨fun _ => ?_, fun x hx => ?_, by omega, ih⟩
    · have := hb r (by omega)
      show Bel ρ S ((3 * p + r) / 3) (gZ Lf ((pn p r ++ G).length : Int)).toNat
      rw [List.length_append, pn_len, show (3 * p + r) / 3 = p by omega, Nat.add_comm r]
      exact this
    · rcases List.mem_append.mp hx with hx | hx
      · obtain ⟨j, h1, h2⟩ := pn_mem hx
        exact ⟨by omega, by omega, Or.inl ⟨by omega, by omega⟩⟩
      · refine ⟨(hG x hx).1, by omega, Or.inr ?_⟩
        rw [show (3 * p + r) / 3 = p by omega]
        exact (hG x hx).2
def prs (S Lf Rg : List Int) : Nat → List (List Int × List Int)
  | 0 => []
  | t + 1 => (tm S (gZ Lf t).toNat, tm S (gZ Rg t).toNat) :: prs S Lf Rg t
theorem prs_mem {S Lf Rg : List Int} {x : List Int × List Int} : ∀ {t : Nat}, x ∈ prs S Lf Rg t ↔ ∃ i : Nat, i < t ∧ x = (tm S (gZ Lf i).toNat, tm S (gZ Rg i).toNat)
  | 0 => ⟨(fun h => by cases h), (fun ⟨i, h, _⟩ => absurd h (Nat.not_lt_zero _))⟩
  | t + 1 => by
    show x ∈ _ :: prs S Lf Rg t ↔ _
    rw [List.mem_cons, prs_mem]
    constructor
    · rintro (h | ⟨i, h1, h2⟩)
      · exact ⟨t, by omega, h⟩
      · exact ⟨i, by omega, h2⟩
    · rintro ⟨i, h1, h2⟩
      by_cases e : i = t
      · subst e
        exact Or.inl h2
      · exact Or.inr ⟨i, by omega, h2⟩
theorem apos_len (P : List Int) : ∀ (m j : Nat), (apos P m j).length = m
  | 0, _ => rfl
  | m + 1, j => by
    show (apos P m _).length + 1 = _
    rw [apos_len P m]
theorem range_map {α : Type} {l : List Nat} {f : Nat → α} : (List.range l.length).map (fun j => f (l[j]?.getD 0)) = l.map f := by
  apply List.ext_getElem?
  intro i
  rw [List.getElem?_map, List.getElem?_map]
  by_cases hi : i < l.length
  · rw [List.getElem?_range hi, List.getElem?_eq_getElem hi]
    simp [List.getElem?_eq_getElem hi]
  · rw [List.getElem?_eq_none (by simpa using hi), List.getElem?_eq_none (by simpa using hi)]
    rfl
/-- the terms of two places with one sign come instead of the places -/
theorem UI.sons {a0 b0 : List Int} {σ : Int → List Int} {S Lf Rg Lf' Rg' : List Int} {t p q : Nat} {a b : List Int} (h : UI a0 b0 σ ((a, b) :: prs S Lf Rg t)) (hp : p < S.length) (hq : q < S.length) (Tp : Ts 1 (tm S p)) (Tq : Ts 1 (tm S q)) (hv : ¬ pz S p < 99) (e : pz S q = pz S p) (ea : sub σ a = sub σ (tm S p)) (eb : sub σ b = sub σ (tm S q))
    (hlo : ∀ i : Nat, i < t → gZ Lf' i = gZ Lf i ∧ gZ Rg' i = gZ Rg i) (hup : ∀ j : Nat, j < ar (pz S p) → (gZ Lf' ((t + j : Nat) : Int)).toNat = (args S p)[j]?.getD 0 ∧ (gZ Rg' ((t + j : Nat) : Int)).toNat = (args S q)[j]?.getD 0) : UI a0 b0 σ (prs S Lf' Rg' (t + ar (pz S p))) := by
  obtain ⟨A1, A2⟩ := args_ok hp Tp
  obtain ⟨B1, B2⟩ := args_ok hq Tq
  have lp : (args S p).length = ar (pz S p) := apos_len S _ _
  have lq : (args S q).length = ar (pz S p) := by
    have := apos_len S (ar (pz S q)) (q + 1)
    rw [e] at this
    show (apos S (ar (pz S q)) (q + 1)).length = _
    rw [e]
    exact this
  have K1 : ((List.range (ar (pz S p))).map (fun j => (tm S ((args S p)[j]?.getD 0), tm S ((args S q)[j]?.getD 0)))).map Prod.fst = (args S p).map (tm S) := by
    rw [List.map_map]
    have := range_map (l := args S p) (f := tm S)
    rw [lp] at this
    exact this
  have K2 : ((List.range (ar (pz S p))).map (fun j => (tm S ((args S p)[j]?.getD 0), tm S ((args S q)[j]?.getD 0)))).map Prod.snd = (args S q).map (tm S) := by
    rw [List.map_map]
    have := range_map (l := args S q) (f := tm S)
    rw [lq] at this
    exact this
  have mem_at : ∀ {l : List Nat} {j : Nat}, j < l.length → l[j]?.getD 0 ∈ l := fun {l j} hj => by
    rw [List.getElem?_eq_getElem hj]
    exact List.getElem_mem hj
  have hd := h.dec (f := pz S p) (x := ((args S p).map (tm S)).flatten) (y := ((args S q).map (tm S)).flatten) (K := (List.range (ar (pz S p))).map (fun j => (tm S ((args S p)[j]?.getD 0), tm S ((args S q)[j]?.getD 0)))) hv (by rw [ea, A1]) (by rw [eb, B1, e]) (by rw [K1]) (by rw [K2]) (fun x hx => by
    obtain ⟨j, hj, rfl⟩ := List.mem_map.mp hx
    have hj := List.mem_range.mp hj
    exact ⟨(A2 _ (mem_at (by omega))).1, (B2 _ (mem_at (by omega))).1⟩)
  refine hd.perm (fun x => ?_)
  rw [List.mem_append, prs_mem, prs_mem]
  constructor
  · rintro (hx | ⟨i, h1, h2⟩)
    · obtain ⟨j, hj, rfl⟩ := List.mem_map.mp hx
      have hj := List.mem_range.mp hj
      refine ⟨t + j, by omega, ?_⟩
      rw [(hup j hj).1, (hup j hj).2]
    · refine ⟨i, by omega, ?_⟩
      rw [(hlo i h1).1, (hlo i h1).2]
      exact h2
  · rintro ⟨i, h1, h2⟩
    by_cases hi : i < t
    · refine Or.inr ⟨i, hi, ?_⟩
      rw [(hlo i hi).1, (hlo i hi).2] at h2
      exact h2
    · obtain ⟨j, rfl⟩ : ∃ j, i = t + j := ⟨i - t, by omega⟩
      have hj : j < ar (pz S p) := by omega
      refine Or.inl (List.mem_map.mpr ⟨j, List.mem_range.mpr hj, ?_⟩)
      rw [h2, (hup j hj).1, (hup j hj).2]
def sm (ρ : Int → List Int) (S Lf : List Int) : Nat → Nat
  | 0 => 0
  | t + 1 => (sub ρ (tm S (gZ Lf t).toNat)).length + sm ρ S Lf t
theorem sm_congr {ρ : Int → List Int} {S Lf Lf' : List Int} : ∀ {t : Nat}, (∀ i : Nat, i < t → gZ Lf' i = gZ Lf i) → sm ρ S Lf' t = sm ρ S Lf t
  | 0, _ => rfl
  | t + 1, h => by
    show (sub ρ (tm S (gZ Lf' t).toNat)).length + sm ρ S Lf' t = _
    rw [h t (by omega), sm_congr (fun i hi => h i (by omega))]
    rfl
theorem sm_up {ρ : Int → List Int} {S Lf : List Int} {t : Nat} {A : List Nat} : ∀ {j : Nat}, j ≤ A.length → (∀ i : Nat, i < j → (gZ Lf ((t + i : Nat) : Int)).toNat = A[i]?.getD 0) → sm ρ S Lf (t + j) = sm ρ S Lf t + (((A.take j).map (fun q => sub ρ (tm S q))).flatten).length
  | 0, _, _ => by simp
  | j + 1, hj, h => by
    have ih := sm_up (ρ := ρ) (S := S) (t := t) (A := A) (j := j) (by omega) (fun i hi => h i (by omega))
    show (sub ρ (tm S (gZ Lf ((t + j : Nat) : Int)).toNat)).length + sm ρ S Lf (t + j) = _
    have hl : j < A.length := by omega
    rw [ih, h j (by omega), List.take_succ, List.getElem?_eq_getElem hl]
    simp only [Option.getD_some, Option.toList_some, List.map_append, List.map_cons, List.map_nil, List.flatten_append, List.flatten_cons, List.flatten_nil, List.length_append, List.append_nil]
    omega
theorem sm_args {ρ : Int → List Int} {S Lf Lf' : List Int} {t p : Nat} (hp : p < S.length) (Tp : Ts 1 (tm S p)) (hv : ¬ pz S p < 99) (hlo : ∀ i : Nat, i < t → gZ Lf' i = gZ Lf i) (hup : ∀ j : Nat, j < ar (pz S p) → (gZ Lf' ((t + j : Nat) : Int)).toNat = (args S p)[j]?.getD 0) : sm ρ S Lf' (t + ar (pz S p)) + 1 = sm ρ S Lf t + (sub ρ (tm S p)).length := by
  have lp : (args S p).length = ar (pz S p) := apos_len S _ _
  rw [sm_up (A := args S p) (by omega) hup, sm_congr hlo, val_f ρ hp Tp hv, ← lp, List.take_length, List.length_cons]
  omega
