/-! what a rule makes uses letters as they are used -/

def kP (U : List Int) (x : Int) : Prop := x ≠ 99 ∧ gZ U ((x - 100) / 4) = (ar x : Int) + 1
def LW (U t : List Int) : Prop := ∃ s u, t = s :: u ∧ 99 ≤ s ∧ (100 ≤ s → gZ U ((s - 100) / 4) = (ar s : Int) + 5) ∧ ∀ x ∈ u, 99 ≤ x → kP U x
theorem LW.tl {U t : List Int} (h : LW U t) {i : Nat} (hi : 0 < i) : ∀ x ∈ t.drop i, 99 ≤ x → kP U x := by
  obtain ⟨s, u, rfl, h1, h2, h3⟩ := h
  intro x hx
  cases i with
  | zero => omega
  | succ i => exact h3 x (List.mem_of_mem_drop hx)
theorem LW.tt_ {U t : List Int} (h : LW U t) {i : Nat} (hi : 0 < i) : ∀ x ∈ tm t i, 99 ≤ x → kP U x := fun x hx => h.tl hi x (tm_sub hx)
theorem LW.kn {U t : List Int} (h : LW U t) : knA U t := by
  obtain ⟨s, u, rfl, h1, h2, h3⟩ := h
  intro s' u' e
  cases e
  exact ⟨h2, fun x hx h100 => (h3 x hx (by omega)).2⟩
theorem LW.n9 {U t : List Int} (h : LW U t) : ∀ s u, t = s :: u → ∀ x ∈ u, x ≠ 99 := by
  obtain ⟨s, u, rfl, h1, h2, h3⟩ := h
  intro s' u' e x hx z
  cases e
  exact (h3 x hx (by omega)).1 z
theorem LW.ex {U U' t : List Int} (h : LW U t) (e : exU U U') : LW U' t := by
  obtain ⟨s, u, rfl, h1, h2, h3⟩ := h
  refine ⟨s, u, rfl, h1, fun hc => ?_, fun x hx h9 => ?_⟩
  · have := h2 hc
    rw [e _ (by omega) (by omega), this]
  · have := h3 x hx h9
    by_cases h100 : x = 99
    · exact absurd h100 this.1
    · exact ⟨this.1, by have q := this.2; rw [e _ (by omega) (by omega), q]⟩
theorem LW.rn_ {U t : List Int} {f : Int → Int} (h : LW U t) (hf : ∀ v ∈ t, v < 99 → f v < 99) : LW U (ren f t) := by
  obtain ⟨s, u, rfl, h1, h2, h3⟩ := h
  refine ⟨s, u.map (fun s => if s < 99 then f s else s), ?_, h1, h2, fun x hx h9 => ?_⟩
  · show (if s < 99 then f s else s) :: _ = _
    rw [if_neg (by omega)]
  · obtain ⟨y, hy, e⟩ := List.mem_map.mp hx
    by_cases hy9 : y < 99
    · rw [if_pos hy9] at e
      have := hf y (List.mem_cons_of_mem _ hy) hy9
      omega
    · rw [if_neg hy9] at e
      subst e
      exact h3 y hy h9
theorem LW.sb_ {U t : List Int} {σ : Int → List Int} (h : LW U t) (hσ : ∀ v, v < 99 → ∀ s ∈ σ v, 99 ≤ s → kP U s) : LW U (sub σ t) := by
  obtain ⟨s, u, rfl, h1, h2, h3⟩ := h
  refine ⟨s, List.flatMap (fun s => if s < 99 then σ s else [s]) u, ?_, h1, h2, sub_sg hσ h3⟩
  rw [sub_cons, if_neg (by omega)]
  rfl
theorem Mg.tail {σ : Int → List Int} {s s' : Int} {u u' : List Int} (h : Mg σ (s :: u) (s' :: u')) (h1 : 99 ≤ s) (h2 : 99 ≤ s') : Mg σ u u' := by
  obtain ⟨a1, a2, a3⟩ := h
  rw [sub_cons, sub_cons, if_neg (by omega), if_neg (by omega)] at a2
  have a2' : s :: sub σ u = s' :: sub σ u' := a2
  injection a2' with e1 e2
  refine ⟨a1, e2, fun θ hθ e => a3 θ hθ ?_⟩
  rw [sub_cons, sub_cons, if_neg (by omega), if_neg (by omega), e1, e]
theorem mdC_LW {U : List Int} {L C' : List (Int × List Int)} {σ : Int → List Int} (hσ : ∀ v, v < 99 → ∀ s ∈ σ v, 99 ≤ s → kP U s) (hL : ∀ y ∈ L, LW U y.2) (h : mdC L σ = some C') : ∀ y ∈ C', LW U y.2 := by
  unfold mdC at h
  rw [mk1_all] at h
  split at h
  · cases h
  · next C e =>
    split at e
    · cases e
      split at h
      · next hb =>
        cases h
        intro y hy
        unfold rnD at hy
        obtain ⟨z, hz, rfl⟩ := List.mem_map.mp hy
        have hz' : LW U z.2 := by
          rcases uqs_mem hz with hz2 | hz2
          · cases hz2
          · obtain ⟨y0, hy0, rfl⟩ := List.mem_map.mp hz2
            exact (hL y0 hy0).sb_ hσ
        refine hz'.rn_ (fun v hv h9 => ?_)
        have := List.idxOf_lt_length_iff.mpr (fvs_mem (q := []) (flt_mem hz hv) h9)
        have h26 := hb.2.2
        omega
      · cases h
    · cases e
def KI (Ds : List (List (Int × List Int) × Bool × Int × Int)) (U : List Int) : Prop := ∀ i : Nat, i < Ds.length → ∀ y ∈ (cl Ds i).1, LW U y.2
theorem shC_LW {U : List Int} {D : List (Int × List Int)} (hg : gC D) (h : ∀ y ∈ D, LW U y.2) : ∀ y ∈ shC D, LW U y.2 := fun y hy => by
  obtain ⟨z, hz, rfl⟩ := List.mem_map.mp hy
  exact (h z hz).rn_ (fun v hv h9 => by
    have := ((hg.2.2 z hz).2.2 v hv).2.2 h9
    omega)
theorem rzR_LW {Ds : List (List (Int × List Int) × Bool × Int × Int)} {U T : List Int} {rule i k j l p : Int} {C' : List (Int × List Int)} (hK : KI Ds U) (hG : ∀ i : Nat, i < Ds.length → gC (cl Ds i).1) (ht : thB Ds T rule i k j l p = true) (h4 : rule ≠ 4) (h : rzR Ds rule i k j l p 0 C') : ∀ y ∈ C', LW U y.2 := by
  obtain ⟨r0, r1, i0, i1, _, hk, hl1, hj, hp3⟩ := thB_ok ht
  obtain ⟨k0, k1⟩ := litB_ok (hk h4)
  have D1 : ∀ y ∈ cl1 Ds i, LW U y.2 := hK i.toNat (by omega)
  have gD : gC (cl1 Ds i) := hG i.toNat (by omega)
  have A1 := D1 _ (lC_mem k1)
  have TA := (gD.2.2 _ (lC_mem k1)).2.1
  have dec := fun x => Classical.propDecidable (kP U x)
  have cases4 : rule = 0 ∨ rule = 1 ∨ rule = 2 ∨ rule = 3 := by omega
  have fin : ∀ {fit : Prop} {a b : List Int} {L : List (Int × List Int)}, RZ fit a b L 0 C' → (∀ σ, fit → Mg σ a b → ∀ v, v < 99 → ∀ s ∈ σ v, 99 ≤ s → kP U s) → (fit → ∀ y ∈ L, LW U y.2) → ∀ y ∈ C', LW U y.2 := fun {fit a b L} hz hs hL => by
    rcases hz with ⟨_, e⟩ | ⟨_, _, e⟩ | ⟨hf, σ, hM, ⟨_, e⟩ | ⟨e, _⟩⟩
    · cases e
    · cases e
    · cases e
    · exact mdC_LW (hs σ hf hM) (hL hf) e
  rcases cases4 with rfl | rfl | rfl | rfl
  · obtain ⟨j0, j1, hl⟩ := hj (Or.inl rfl)
    obtain ⟨l0, l1⟩ := litB_ok hl
    have gE : gC (cl1 Ds j) := hG j.toNat (by omega)
    have D2 := shC_LW gE (hK j.toNat (by omega))
    have A2 := D2 _ (lC_mem (C := shC (cl1 Ds j)) (k := l.toNat) (by rw [shC_len]; exact l1))
    unfold rzR at h
    rw [if_pos rfl] at h
    refine fin h (fun σ _ hM => ?_) (fun _ y hy => ?_)
    · obtain ⟨s, u, e1, q1, q2, q3⟩ := A1
      obtain ⟨s', u', e2, p1, p2, p3⟩ := A2
      rw [e1, e2] at hM
      exact @Mg.sg _ _ _ (hM.tail q1 p1) (kP U) dec q3 p3
    · rcases List.mem_append.mp hy with hy | hy
      · exact D1 y (oth_mem hy)
      · exact D2 y (oth_mem hy)
  · obtain ⟨l0, l1⟩ := litB_ok (hl1 rfl)
    have A2 := D1 _ (lC_mem l1)
    unfold rzR at h
    rw [if_neg (by decide), if_pos rfl] at h
    refine fin h (fun σ _ hM => ?_) (fun _ y hy => D1 y (oth_mem hy))
    obtain ⟨s, u, e1, q1, q2, q3⟩ := A1
    obtain ⟨s', u', e2, p1, p2, p3⟩ := A2
    rw [e1, e2] at hM
    exact @Mg.sg _ _ _ (hM.tail q1 p1) (kP U) dec q3 p3
  · unfold rzR at h
    rw [if_neg (by decide), if_neg (by decide), if_pos rfl] at h
    exact fin h (fun σ _ hM => @Mg.sg _ _ _ hM (kP U) dec (A1.tt_ (by omega)) (A1.tt_ (by omega))) (fun _ y hy => D1 y (oth_mem hy))
  · obtain ⟨j0, j1, hl⟩ := hj (Or.inr rfl)
    obtain ⟨l0, l1⟩ := litB_ok hl
    have gE : gC (cl1 Ds j) := hG j.toNat (by omega)
    have D2 := shC_LW gE (hK j.toNat (by omega))
    have A2 := D2 _ (lC_mem (C := shC (cl1 Ds j)) (k := l.toNat) (by rw [shC_len]; exact l1))
    unfold rzR at h
    rw [if_neg (by decide), if_neg (by decide), if_neg (by decide)] at h
    have f3k : ∀ x ∈ f3 (lC (cl1 Ds i) k.toNat).2 p, 99 ≤ x → kP U x := fun x hx => by
      unfold f3 at hx
      split at hx
      · exact A1.tt_ (by omega) x hx
      · exact A1.tt_ (by omega) x hx
    have g3k : ∀ x ∈ g3 (lC (cl1 Ds i) k.toNat).2 p, 99 ≤ x → kP U x := fun x hx => by
      unfold g3 at hx
      split at hx
      · exact A1.tt_ (by omega) x hx
      · exact A1.tt_ (by omega) x hx
    refine fin h (fun σ _ hM => @Mg.sg _ _ _ hM (kP U) dec f3k (A2.tt_ (by omega))) (fun _ y hy => ?_)
    rcases List.mem_append.mp hy with hy | hy
    · exact D1 y (oth_mem hy)
    · rcases rew_mem hy with hy | ⟨q, hq, e⟩
      · exact D2 y hy
      · rw [e]
        obtain ⟨s, u, e1, q1, q2, q3⟩ := A2
        unfold rw3
        rw [e1]
        refine ⟨s, u.take (plQ p).toNat ++ (g3 (lC (cl1 Ds i) k.toNat).2 p ++ (s :: u).drop (1 + (plQ p).toNat + (tm (s :: u) (1 + (plQ p).toNat)).length)), ?_, q1, q2, fun x hx h9 => ?_⟩
        · rw [Nat.add_comm 1 (plQ p).toNat, List.take_succ_cons]
          rfl
        · rcases List.mem_append.mp hx with hx | hx
          · exact q3 x (List.mem_of_mem_take hx) h9
          · rcases List.mem_append.mp hx with hx | hx
            · exact g3k x hx h9
            · rw [show 1 + (plQ p).toNat + (tm (s :: u) (1 + (plQ p).toNat)).length = ((plQ p).toNat + (tm (s :: u) (1 + (plQ p).toNat)).length) + 1 by omega, List.drop_succ_cons] at hx
              exact q3 x (List.mem_of_mem_drop hx) h9
theorem rdT_nz : ∀ {n : Nat} {r t r1 : List Int}, rdT n r = some (t, r1) → ∀ s ∈ t, s ≠ 99 := fun h s hs => by
  rcases rdT_sg h s hs with e | e <;> omega
/-- the atom of a literal that was read -/
theorem rdM_hd {n : Nat} {r t r1 : List Int} (h : rdM n r = some (t, r1)) : ∃ s u, t = s :: u ∧ 99 ≤ s ∧ ∀ x ∈ u, x ≠ 99 := by
  unfold rdM at h
  cases hT : rdT n r with
  | none => rw [hT] at h; cases h
  | some v =>
    obtain ⟨a, q⟩ := v
    rw [hT] at h
    have na := rdT_nz hT
    have Ta := (rdT_ok hT).1
    have hdn : hdU r = false → ∃ s u, a = s :: u ∧ 99 ≤ s ∧ ∀ x ∈ u, x ≠ 99 := fun hU => by
      cases a with
      | nil => exact absurd Ta (by simp [Ts])
      | cons s u =>
        refine ⟨s, u, rfl, ?_, fun x hx => na x (List.mem_cons_of_mem _ hx)⟩
        cases n with
        | zero => cases hT
        | succ n =>
          cases r with
          | nil => cases hT
          | cons c r =>
            have hU' : ¬ (65 ≤ c ∧ c ≤ 90) := by
              have : decide (65 ≤ c ∧ c ≤ 90) = false := hU
              simpa using this
            unfold rdT at hT
            rw [if_neg hU'] at hT
            split at hT
            · next hc =>
              split at hT
              · cases hT
                omega
              · split at hT
                · split at hT
                  · cases hT
                  · next k ts r2 hA =>
                    have := rdA_ok (fun r t r1 hr => rdT_ok (n := n) hr) hA
                    cases hT
                    omega
                · cases hT
                  omega
            · cases hT
    cases q with
    | nil =>
      dsimp only at h
      split at h
      · cases h
      · next hU =>
        cases h
        exact hdn (by simpa using hU)
    | cons c q =>
      dsimp only at h
      split at h
      · cases hT2 : rdT n q with
        | none => rw [hT2] at h; cases h
        | some v2 =>
          obtain ⟨b, q2⟩ := v2
          rw [hT2] at h
          cases h
          refine ⟨99, a ++ b, rfl, by omega, fun x hx => ?_⟩
          rcases List.mem_append.mp hx with hx | hx
          · exact na x hx
          · exact rdT_nz hT2 x hx
      · split at h
        · cases h
        · next hU =>
          cases h
          exact hdn (by simpa using hU)
theorem rdL_hd {n : Nat} {r r1 : List Int} {x : Int × List Int} (h : rdL n r = some (x, r1)) : ∃ s u, x.2 = s :: u ∧ 99 ≤ s ∧ ∀ x ∈ u, x ≠ 99 := by
  cases r with
  | nil => cases h
  | cons c r =>
    unfold rdL at h
    dsimp only at h
    split at h
    · cases hM : rdM n r with
      | none => rw [hM] at h; cases h
      | some v =>
        obtain ⟨t, q⟩ := v
        rw [hM] at h
        cases h
        exact rdM_hd hM
    · cases hM : rdM n (c :: r) with
      | none => rw [hM] at h; cases h
      | some v =>
        obtain ⟨t, q⟩ := v
        rw [hM] at h
        cases h
        exact rdM_hd hM
theorem rdC_hd {n : Nat} : ∀ {k : Nat} {r : List Int} {l : List (Int × List Int)}, rdC n k r = some l → ∀ y ∈ l, ∃ s u, y.2 = s :: u ∧ 99 ≤ s ∧ ∀ x ∈ u, x ≠ 99
  | 0, _, _, h => by cases h
  | k + 1, r, l, h => by
    unfold rdC at h
    split at h
    · cases h
    · next x hL =>
      cases h
      intro y hy
      rw [List.mem_singleton] at hy
      subst hy
      exact rdL_hd hL
    · next x c r1 hL =>
      split at h
      · cases hR : rdC n k r1 with
        | none => rw [hR] at h; cases h
        | some l2 =>
          rw [hR] at h
          cases h
          intro y hy
          rcases List.mem_cons.mp hy with hy | hy
          · subst hy
            exact rdL_hd hL
          · exact rdC_hd hR y hy
      · cases h
theorem rdQ_hd {T : List Int} {l : List (Int × List Int)} (h : rdQ T = some l) : ∀ y ∈ l, ∃ s u, y.2 = s :: u ∧ 99 ≤ s ∧ ∀ x ∈ u, x ≠ 99 := by
  unfold rdQ at h
  split at h
  · cases h
    intro y hy
    cases hy
  · split at h
    · cases h
    · next l2 hR =>
      split at h
      · cases h
        exact rdC_hd hR
      · cases h
/-- a clause that was read, once its letters are noted -/
theorem read_LW {T U : List Int} {l : List (Int × List Int)} (h : rdQ T = some l) (hU : U.length = 26) (ok : (ntC l (U, false)).2 = false) : ∀ y ∈ rnD (uqs [] l), LW (ntC l (U, false)).1 y.2 := by
  obtain ⟨_, _, _, hk⟩ := ntC_ex (l := l) (z := (U, false)) hU (rdQ_lt h) ok
  have gc := rdQ_ok h
  intro y hy
  unfold rnD at hy
  obtain ⟨z, hz, rfl⟩ := List.mem_map.mp hy
  have hzl : z ∈ l := by
    rcases uqs_mem hz with q | q
    · cases q
    · exact q
  obtain ⟨s, u, e, h1, h2⟩ := rdQ_hd h z hzl
  have hkz := hk z hzl s u e
  have hw : LW (ntC l (U, false)).1 z.2 := ⟨s, u, e, h1, hkz.1, fun x hx h9 => ⟨h2 x hx, hkz.2 x hx (by have := h2 x hx; omega)⟩⟩
  refine hw.rn_ (fun v hv h9 => ?_)
  have q1 := List.idxOf_lt_length_iff.mpr (fvs_mem (q := []) (flt_mem hz hv) h9)
  have q2 := fvs_len (flt (uqs [] l)) []
  simp only [List.length_nil] at q2
  have := gc.2.1
  omega
