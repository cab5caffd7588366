/-! the class's joining: pairs turned round, terms of one sign, the number of tops -/
theorem Rs_perm {n : Nat} {R : Nat → Nat} {W W' : List (Nat × Nat)} {φ : Nat → List Int} (e : ∀ q, q ∈ W' → q ∈ W ∨ (q.2, q.1) ∈ W) (h : Rs n R W φ) : Rs n R W' φ := ⟨h.1, fun q hq => by
  rcases e q hq with g | g
  · exact h.2 q g
  · exact (h.2 _ g).symm⟩
theorem UJ.perm {P : List Int} {x y : Nat} {R : Nat → Nat} {W W' : List (Nat × Nat)} (h : UJ P x y R W) (e : ∀ q, q ∈ W → q ∈ W' ∨ (q.2, q.1) ∈ W') (e' : ∀ q, q ∈ W' → q ∈ W ∨ (q.2, q.1) ∈ W) : UJ P x y R W' := by
  obtain ⟨h1, h2, h3, h4, h5, h6, h7⟩ := h
  refine ⟨h1, h2, h3, fun i hi hr hv => ⟨(h4 i hi hr hv).1, fun φ hφ => (h4 i hi hr hv).2 φ (Rs_perm e hφ)⟩, fun φ hφ => h5 φ (Rs_perm e hφ), fun θ hθ k => Rs_perm e' (h6 θ hθ k), fun q hq => ?_⟩
  rcases e' q hq with g | g
  · exact h7 q g
  · exact ⟨(h7 _ g).2, (h7 _ g).1⟩
theorem UJ.flip {P : List Int} {x y p q : Nat} {R : Nat → Nat} {W : List (Nat × Nat)} (h : UJ P x y R ((p, q) :: W)) : UJ P x y R ((q, p) :: W) := by
  refine h.perm (fun r hr => ?_) (fun r hr => ?_)
  · rcases List.mem_cons.mp hr with rfl | hr
    · exact Or.inr List.mem_cons_self
    · exact Or.inl (List.mem_cons_of_mem _ hr)
  · rcases List.mem_cons.mp hr with rfl | hr
    · exact Or.inr List.mem_cons_self
    · exact Or.inl (List.mem_cons_of_mem _ hr)
/-- the pairs of the terms of two places -/
def tps (P : List Int) (a b : Nat) : List (Nat × Nat) := (List.range (ar (pz P a))).map (fun j => ((args P a)[j]?.getD 0, (args P b)[j]?.getD 0))
theorem UJ.sons {P : List Int} {x y p q k : Nat} {R : Nat → Nat} {W : List (Nat × Nat)} (hT : ∀ i, i < P.length → Ts 1 (tm P i)) (h : UJ P x y R ((p, q) :: W)) (hk : P.length ≤ k) (hne : fdn R k p ≠ fdn R k q) (hv : ¬ pz P (fdn R k p) < 99) (e : pz P (fdn R k q) = pz P (fdn R k p)) : UJ P x y (ups R (fdn R k p) (fdn R k q)) (tps P (fdn R k p) (fdn R k q) ++ W) := by
  have hpq := h.2.2.2.2.2.2 (p, q) List.mem_cons_self
  have la := fdn_lt h.1 k p hpq.1
  have lb := fdn_lt h.1 k q hpq.2
  obtain ⟨A1, A2⟩ := args_ok la (hT _ la)
  obtain ⟨B1, B2⟩ := args_ok lb (hT _ lb)
  have lp : (args P (fdn R k p)).length = ar (pz P (fdn R k p)) := apos_len P _ _
  have lq : (args P (fdn R k q)).length = ar (pz P (fdn R k p)) := by
    have := apos_len P (ar (pz P (fdn R k q))) (fdn R k q + 1)
    show (apos P (ar (pz P (fdn R k q))) (fdn R k q + 1)).length = _
    rw [this, e]
  have mem_at : ∀ {l : List Nat} {j : Nat}, j < l.length → l[j]?.getD 0 ∈ l := fun {l j} hj => by
    rw [List.getElem?_eq_getElem hj]
    exact List.getElem_mem hj
  refine h.link hk hne (fun _ => ⟨e, fun φ hφ => ?_⟩) (fun θ hθ ev r hr => ?_) (fun r hr => ?_)
  · have e1 := range_map (l := args P (fdn R k p)) (f := φ)
    have e2 := range_map (l := args P (fdn R k q)) (f := φ)
    rw [lp] at e1
    rw [lq] at e2
    rw [← e1, ← e2]
    apply List.map_congr_left
    intro j hj
    exact hφ ((args P (fdn R k p))[j]?.getD 0, (args P (fdn R k q))[j]?.getD 0) (List.mem_map.mpr ⟨j, hj, rfl⟩)
  · rw [val_f θ la (hT _ la) hv, val_f θ lb (hT _ lb) (by rw [e]; exact hv), List.cons.injEq] at ev
    obtain ⟨j, hj, rfl⟩ := List.mem_map.mp hr
    have hj' := List.mem_range.mp hj
    have e1 := range_map (l := args P (fdn R k p)) (f := fun q => sub θ (tm P q))
    have e2 := range_map (l := args P (fdn R k q)) (f := fun q => sub θ (tm P q))
    rw [lp] at e1
    rw [lq] at e2
    have ev2 := ev.2
    rw [← e1, ← e2] at ev2
    have := pairs_eq (K := (List.range (ar (pz P (fdn R k p)))).map (fun j => (sub θ (tm P ((args P (fdn R k p))[j]?.getD 0)), sub θ (tm P ((args P (fdn R k q))[j]?.getD 0))))) (fun z hz => by
      obtain ⟨i, hi, rfl⟩ := List.mem_map.mp hz
      have hi' := List.mem_range.mp hi
      exact ⟨Ts_sub hθ (A2 _ (mem_at (by omega))).1, Ts_sub hθ (B2 _ (mem_at (by omega))).1⟩) (by rw [List.map_map, List.map_map]; exact ev2) _ (List.mem_map.mpr ⟨j, hj, rfl⟩)
    exact this
  · obtain ⟨j, hj, rfl⟩ := List.mem_map.mp hr
    have hj' := List.mem_range.mp hj
    exact ⟨(A2 _ (mem_at (by omega))).2.1, (B2 _ (mem_at (by omega))).2.1⟩
/-- the number of tops -/
def rc (R : Nat → Nat) (n : Nat) : Nat := (List.range n).countP (fun i => decide (R i = i))
theorem count_lt2 {f g : Nat → Bool} {s : Nat} : ∀ {n : Nat}, s < n → (∀ i, i < n → g i = true → f i = true) → f s = true → g s = false → (List.range n).countP g < (List.range n).countP f
  | 0, h, _, _, _ => absurd h (Nat.not_lt_zero _)
  | n + 1, h, h1, h2, h3 => count_lt h h1 h2 h3
theorem rc_ups {R : Nat → Nat} {n a b : Nat} (ha : a < n) (hr : R a = a) (hab : a ≠ b) : rc (ups R a b) n < rc R n := by
  refine count_lt2 (s := a) ha (fun i hi g => ?_) (decide_eq_true hr) (decide_eq_false (by rw [ups_a]; exact Ne.symm hab))
  have g' := of_decide_eq_true g
  by_cases e : i = a
  · subst e
    exact decide_eq_true hr
  · rw [ups_n e] at g'
    exact decide_eq_true g'
theorem rc_pos {R : Nat → Nat} {n a : Nat} (ha : a < n) (hr : R a = a) : 0 < rc R n := by
  unfold rc
  rw [List.countP_pos_iff]
  exact ⟨a, List.mem_range.mpr ha, decide_eq_true hr⟩
theorem rc_le (R : Nat → Nat) (n : Nat) : rc R n ≤ n := by
  have := List.countP_le_length (p := fun i => decide (R i = i)) (l := List.range n)
  rw [List.length_range] at this
  exact this
/-- the pairs that wait, the last one first -/
def wps (Os Ot : List Int) : Nat → List (Nat × Nat)
  | 0 => []
  | t + 1 => ((gZ Os t).toNat, (gZ Ot t).toNat) :: wps Os Ot t
theorem wps_mem {Os Ot : List Int} {x : Nat × Nat} : ∀ {t : Nat}, x ∈ wps Os Ot t ↔ ∃ i : Nat, i < t ∧ x = ((gZ Os i).toNat, (gZ Ot i).toNat)
  | 0 => ⟨(fun h => by cases h), (fun ⟨i, h, _⟩ => absurd h (Nat.not_lt_zero _))⟩
  | t + 1 => by
    show x ∈ _ :: wps Os Ot t ↔ _
    rw [List.mem_cons, wps_mem]
    constructor
    · rintro (h | ⟨i, h1, h2⟩)
      · exact ⟨t, by omega, h⟩
      · exact ⟨i, by omega, h2⟩
    · rintro ⟨i, h1, h2⟩
      by_cases e : i = t
      · subst e
        exact Or.inl h2
      · exact Or.inr ⟨i, by omega, h2⟩
/-- what joinTerms leaves waiting -/
theorem wps_psh {P Os Ot : List Int} {t a b : Nat} {W : List (Nat × Nat)} (hl1 : Os.length = 241) (hl2 : Ot.length = 241) (ht : t + ar (pz P a) ≤ 241) (e : pz P b = pz P a) (r : Nat × Nat) : r ∈ wps (psh P Os t (ar (pz P a)) ((a : Int) + 1)) (psh P Ot t (ar (pz P a)) ((b : Int) + 1)) (t + ar (pz P a)) ↔ r ∈ tps P a b ++ wps Os Ot t := by
  have up1 : ∀ j : Nat, j < ar (pz P a) → (gZ (psh P Os t (ar (pz P a)) ((a : Int) + 1)) ((t + j : Nat) : Int)).toNat = (args P a)[j]?.getD 0 := fun j hj => by
    have := psh_at (S := P) (r := ar (pz P a)) (L := Os) (T := t) (x := (a : Int) + 1) (j := j) (by omega) (by omega) (by omega) hj
    rw [show ((t + j : Nat) : Int) = (t : Int) + (j : Int) by omega, this, Int.toNat_natCast, show ((a : Int) + 1).toNat = a + 1 by omega]
    rfl
  have up2 : ∀ j : Nat, j < ar (pz P a) → (gZ (psh P Ot t (ar (pz P a)) ((b : Int) + 1)) ((t + j : Nat) : Int)).toNat = (args P b)[j]?.getD 0 := fun j hj => by
    have := psh_at (S := P) (r := ar (pz P a)) (L := Ot) (T := t) (x := (b : Int) + 1) (j := j) (by omega) (by omega) (by omega) hj
    rw [show ((t + j : Nat) : Int) = (t : Int) + (j : Int) by omega, this, Int.toNat_natCast, show ((b : Int) + 1).toNat = b + 1 by omega]
    show _ = (apos P (ar (pz P b)) (b + 1))[j]?.getD 0
    rw [e]
  have lo1 : ∀ i : Nat, i < t → gZ (psh P Os t (ar (pz P a)) ((a : Int) + 1)) i = gZ Os i := fun i hi => psh_low (by omega) (by omega) (by omega) (by omega)
  have lo2 : ∀ i : Nat, i < t → gZ (psh P Ot t (ar (pz P a)) ((b : Int) + 1)) i = gZ Ot i := fun i hi => psh_low (by omega) (by omega) (by omega) (by omega)
  rw [List.mem_append, wps_mem, wps_mem]
  constructor
  · rintro ⟨i, h1, h2⟩
    by_cases hi : i < t
    · refine Or.inr ⟨i, hi, ?_⟩
      rw [lo1 i hi, lo2 i hi] at h2
      exact h2
    · obtain ⟨j, rfl⟩ : ∃ j, i = t + j := ⟨i - t, by omega⟩
      have hj : j < ar (pz P a) := by omega
      refine Or.inl (List.mem_map.mpr ⟨j, List.mem_range.mpr hj, ?_⟩)
      rw [h2, up1 j hj, up2 j hj]
  · rintro (hx | ⟨i, h1, h2⟩)
    · obtain ⟨j, hj, rfl⟩ := List.mem_map.mp hx
      have hj := List.mem_range.mp hj
      refine ⟨t + j, by omega, ?_⟩
      rw [up1 j hj, up2 j hj]
    · refine ⟨i, by omega, ?_⟩
      rw [lo1 i h1, lo2 i h1]
      exact h2
