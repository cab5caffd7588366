/-! what a rule makes, without names; clauses among the places -/

/-- a clause that is right -/
def gC (D : List (Int × List Int)) : Prop := D.length ≤ 6 ∧ (flt D).length ≤ 40 ∧ ∀ x ∈ D, (x.1 = 0 ∨ x.1 = 1) ∧ Ts 1 x.2 ∧ ∀ s ∈ x.2, 0 ≤ s ∧ s < 204 ∧ (s < 99 → s < 26)
def shC (D : List (Int × List Int)) : List (Int × List Int) := D.map (litR (fun v => v + 26))
theorem shC_len (D : List (Int × List Int)) : (shC D).length = D.length := by simp [shC]
theorem stC_shC (D : List (Int × List Int)) (k : Nat) : stC (shC D) k = stC D k := stC_map (litR_len _) D k
theorem flt_shC (D : List (Int × List Int)) : flt (shC D) = ren (fun v => v + 26) (flt D) := flt_ren _ _
theorem ren_len (f : Int → Int) (t : List Int) : (ren f t).length = t.length := by simp [ren]
theorem ren_getD {f : Int → Int} {t : List Int} {i : Nat} (h : i < t.length) : (ren f t).getD i 0 = if t.getD i 0 < 99 then f (t.getD i 0) else t.getD i 0 := by
  unfold ren
  rw [List.getD_eq_getElem?_getD, List.getD_eq_getElem?_getD, List.getElem?_map, List.getElem?_eq_getElem h]
  rfl
theorem Ts_ren {f : Int → Int} (hf : ∀ v, v < 26 → f v < 99) : ∀ {t : List Int} {n : Nat}, (∀ s ∈ t, s < 99 → s < 26) → Ts n t → Ts n (ren f t)
  | [], n, _, h => h
  | s :: t, n, hv, h => by
    obtain ⟨m, rfl, hh⟩ := Ts_cons h
    show Ts (m + 1) ((if s < 99 then f s else s) :: ren f t)
    rw [Ts_s]
    have e : ar (if s < 99 then f s else s) = ar s := by
      by_cases h9 : s < 99
      · rw [if_pos h9, ar_v (hf s (hv s List.mem_cons_self h9)), ar_v h9]
      · rw [if_neg h9]
    rw [e]
    exact Ts_ren hf (fun z hz => hv z (List.mem_cons_of_mem _ hz)) hh
theorem gC.shift {D : List (Int × List Int)} (h : gC D) : ∀ x ∈ shC D, (x.1 = 0 ∨ x.1 = 1) ∧ Ts 1 x.2 ∧ ∀ s ∈ x.2, 0 ≤ s ∧ s < 204 ∧ (s < 99 → s < 52) := fun x hx => by
  obtain ⟨y, hy, rfl⟩ := List.mem_map.mp hx
  have g := h.2.2 y hy
  refine ⟨g.1, Ts_ren (fun v hv => by omega) (fun s hs => (g.2.2 s hs).2.2) g.2.1, fun s hs => ?_⟩
  obtain ⟨z, hz, e⟩ := List.mem_map.mp hs
  have g2 := g.2.2 z hz
  subst e
  show 0 ≤ (if z < 99 then z + 26 else z) ∧ _
  by_cases h9 : z < 99
  · rw [if_pos h9]
    have := g2.2.2 h9
    omega
  · rw [if_neg h9]
    omega
/-- the terms that a row in S begins with at a place -/
theorem tm_in {S u : List Int} {a : Int} (h0 : 0 ≤ a) (hs : seg S a (a + u.length) = u) {i : Nat} (hi : i < u.length) (hT : Ts 1 (tm u i)) : tm S (a + i).toNat = tm u i := by
  obtain ⟨b, e⟩ := tk_pre (u.drop i) 1
  have e1 : S.drop a.toNat = u ++ S.drop (a.toNat + u.length) := by
    have : S.drop a.toNat = (S.drop a.toNat).take u.length ++ (S.drop a.toNat).drop u.length := (List.take_append_drop _ _).symm
    rw [List.drop_drop] at this
    have e2 : (S.drop a.toNat).take u.length = u := by
      unfold seg at hs
      rw [show (a + (u.length : Int)).toNat - a.toNat = u.length by omega] at hs
      exact hs
    rw [e2] at this
    exact this
  unfold tm at hT ⊢
  rw [show (a + (i : Int)).toNat = a.toNat + i by omega, ← List.drop_drop, e1, List.drop_append_of_le_length (by omega)]
  have e3 : List.drop i u ++ List.drop (a.toNat + u.length) S = tk 1 (List.drop i u) ++ (b ++ List.drop (a.toNat + u.length) S) := by
    rw [← List.append_assoc, ← e]
  rw [e3]
  exact tk_app hT
theorem tm_at0 {u : List Int} (h : Ts 1 u) : tm u 0 = u := by
  unfold tm
  have := tk_app (b := []) h
  rw [List.append_nil] at this
  exact this
def mdC (L : List (Int × List Int)) (σ : Int → List Int) : Option (List (Int × List Int)) := match mk1 (some []) (L.map (litS σ)) with
  | none => none
  | some C => if C.length ≤ 6 ∧ (flt C).length ≤ 40 ∧ (fvs [] (flt C)).length ≤ 26 then some (rnD C) else none
theorem mk1_all : ∀ (t C : List (Int × List Int)), mk1 (some C) t = if ∀ x ∈ t, x.2.length ≤ 40 then some (uqs C t) else none
  | [], C => by simp [mk1, uqs]
  | x :: t, C => by
    show mk1 (if x.2.length ≤ 40 then some (adL C x) else none) t = _
    by_cases h : x.2.length ≤ 40
    · rw [if_pos h, mk1_all t]
      have e : uqs C (x :: t) = uqs (adL C x) t := by
        unfold adL
        show (if x ∈ C then _ else _) = _
        by_cases hx : x ∈ C
        · rw [if_pos hx, if_pos hx]
        · rw [if_neg hx, if_neg hx]
      rw [e]
      by_cases h2 : ∀ x ∈ t, x.2.length ≤ 40
      · rw [if_pos h2, if_pos (fun y hy => by
          rcases List.mem_cons.mp hy with rfl | hy
          · exact h
          · exact h2 y hy)]
      · rw [if_neg h2, if_neg (fun z => h2 (fun y hy => z y (List.mem_cons_of_mem _ hy)))]
    · rw [if_neg h, mk1_none, if_neg (fun z => h (z x List.mem_cons_self))]
theorem rnD_ren {f g : Int → Int} {C : List (Int × List Int)} (h : ∀ v ∈ flt C, v < 99 → f v < 99 ∧ g (f v) = v) : rnD (C.map (litR f)) = rnD C ∧ (fvs [] (flt (C.map (litR f)))).length = (fvs [] (flt C)).length := by
  have e := rnm_ren h
  have e1 : flt (C.map (litR f)) = ren f (flt C) := flt_ren f C
  have inj : ∀ v u, v ∈ flt C → v < 99 → (u ∈ ([] : List Int) ∨ (u ∈ flt C ∧ u < 99)) → f v = f u → v = u := fun v u hv h9 hu ee => by
    rcases hu with hu | hu
    · cases hu
    · rw [← (h v hv h9).2, ee, (h u hu.1 hu.2).2]
  have e2 : fvs [] (ren f (flt C)) = (fvs [] (flt C)).map f := fvs_ren (q := []) (fun v hv h9 => (h v hv h9).1) inj
  refine ⟨?_, by rw [e1]; exact e.2⟩
  unfold rnD
  rw [e1, e2, List.map_map]
  apply List.map_congr_left
  intro x hx
  show (x.1, ren _ (ren f x.2)) = (x.1, ren _ x.2)
  congr 1
  unfold ren
  rw [List.map_map]
  apply List.map_congr_left
  intro s hs
  show (if (if s < 99 then f s else s) < 99 then _ else _) = _
  by_cases h9 : s < 99
  · have hm := flt_mem hx hs
    have hv := h s hm h9
    rw [if_pos h9, if_pos hv.1, if_pos h9]
    have hmf : s ∈ fvs [] (flt C) := fvs_mem hm h9
    have := idx_map (f := f) (q := fvs [] (flt C)) (s := s) (fun u hu ee => by
      rcases fvs_of hu with hu | hu
      · cases hu
      · exact inj s u hm h9 (Or.inr hu) ee)
    show (((fvs [] (flt C)).map f).idxOf (if s < 99 then f s else s) : Int) = _
    rw [if_pos h9, this]
  · rw [if_neg h9, if_neg h9, if_neg h9]
theorem mdC_eq {σ τ : Int → List Int} {a b : List Int} (h : Mg σ a b) (g : Mg τ a b) (L : List (Int × List Int)) : mdC L σ = mdC L τ := by
  have e := h.clause g L
  have el : ∀ t, (sub τ t).length = (sub σ t).length := fun t => by
    rw [(h.twin g t).1, ren_len]
  unfold mdC
  rw [mk1_all, mk1_all]
  by_cases h4 : ∀ x ∈ L.map (litS σ), x.2.length ≤ 40
  · have h5 : ∀ x ∈ L.map (litS τ), x.2.length ≤ 40 := fun x hx => by
      obtain ⟨y, hy, rfl⟩ := List.mem_map.mp hx
      have := h4 (litS σ y) (List.mem_map_of_mem hy)
      show (sub τ y.2).length ≤ 40
      rw [el]
      exact this
    rw [if_pos h4, if_pos h5]
    rw [e.1]
    have e2 := rnD_ren e.2
    dsimp only
    rw [e2.1, e2.2, flt_ren, ren_len, List.length_map]
  · rw [if_neg h4, if_neg (fun z => h4 (fun x hx => by
      obtain ⟨y, hy, rfl⟩ := List.mem_map.mp hx
      have := z (litS τ y) (List.mem_map_of_mem hy)
      show (sub σ y.2).length ≤ 40
      rw [← el]
      exact this))]
def RZ (fit : Prop) (a b : List Int) (L : List (Int × List Int)) (r : Int) (C : List (Int × List Int)) : Prop := (¬ fit ∧ r = -5) ∨ (fit ∧ (∀ θ, Tσ θ → sub θ a ≠ sub θ b) ∧ r = -6) ∨ (fit ∧ ∃ σ, Mg σ a b ∧ ((mdC L σ = none ∧ r = -7) ∨ (mdC L σ = some C ∧ r = 0)))
theorem RZ_det {fit : Prop} {a b : List Int} {L : List (Int × List Int)} {r r' : Int} {C C' : List (Int × List Int)} (h : RZ fit a b L r C) (g : RZ fit a b L r' C') : r = r' ∧ (r = 0 → C = C') := by
  rcases h with ⟨h1, rfl⟩ | ⟨h1, h2, rfl⟩ | ⟨h1, σ, h2, h3⟩
  · rcases g with ⟨g1, rfl⟩ | ⟨g1, g2, rfl⟩ | ⟨g1, τ, g2, g3⟩
    · exact ⟨rfl, fun z => absurd z (by decide)⟩
    · exact absurd g1 h1
    · exact absurd g1 h1
  · rcases g with ⟨g1, rfl⟩ | ⟨g1, g2, rfl⟩ | ⟨g1, τ, g2, g3⟩
    · exact absurd h1 g1
    · exact ⟨rfl, fun z => absurd z (by decide)⟩
    · exact absurd g2.2.1 (h2 τ g2.1)
  · rcases g with ⟨g1, rfl⟩ | ⟨g1, g2, rfl⟩ | ⟨g1, τ, g2, g3⟩
    · exact absurd h1 g1
    · exact absurd h2.2.1 (g2 σ h2.1)
    · rw [mdC_eq h2 g2] at h3
      rcases h3 with ⟨h3, rfl⟩ | ⟨h3, rfl⟩
      · rcases g3 with ⟨g3, rfl⟩ | ⟨g3, rfl⟩
        · exact ⟨rfl, fun z => absurd z (by decide)⟩
        · rw [h3] at g3
          cases g3
      · rcases g3 with ⟨g3, rfl⟩ | ⟨g3, rfl⟩
        · rw [h3] at g3
          cases g3
        · rw [h3] at g3
          cases g3
          exact ⟨rfl, fun _ => rfl⟩
