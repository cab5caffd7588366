/-! the reference: a term is read, to its end -/

section TI
variable {N : Nat} {D : List Int}
def TOk (d N : Nat) (D : List Int) (w : Nat → xC) (m : Nat → Int) (R St : List Int) (lv : xL) (o : Int) (t r1 : List Int) : Prop := ∃ (w' : Nat → xC) (m' : Nat → Int) (R' St' : List Int) (lv' : xL), TR w' m' D R' St' ∧ Fr ksR w w' ∧ mT m m' ∧ m' 5 = 0 ∧ seg D (m' 4) (m' 3) = r1 ∧ m 4 ≤ m' 4 ∧ m' 7 = m 7 + t.length ∧ (∀ j, 0 ≤ j → j < m 7 → gZ R' j = gZ R j) ∧ (∀ j : Nat, j < t.length → gZ R' (m 7 + j) = t.getD j 0) ∧ (∀ j, 0 ≤ j → j < o → gZ St' j = gZ St j) ∧ lT lv' o 0 ∧ ∀ res, Gx q_k100 (d + 2) 134 (lv', [], hp w' N) res → Gx q_k100 (d + 2) 4 (lv, [], hp w N) res
def TBad (d N : Nat) (D : List Int) (w : Nat → xC) (m : Nat → Int) (R : List Int) (lv : xL) : Prop := ∃ (w' : Nat → xC) (m' : Nat → Int) (R' St' : List Int), TR w' m' D R' St' ∧ Fr ksR w w' ∧ mT m m' ∧ m' 5 = 1 ∧ m 7 ≤ m' 7 ∧ (∀ j, 0 ≤ j → j < m 7 → gZ R' j = gZ R j) ∧ (∀ j, m 7 ≤ j → j < m' 7 → sgR (gZ R' j)) ∧ Gx q_k100 (d + 2) 4 (lv, [], hp w N) (none, hp w' N)
def AOk (d N : Nat) (D : List Int) (w : Nat → xC) (m : Nat → Int) (R St : List Int) (lv : xL) (o f : Int) (k : Int) (t r1 : List Int) : Prop := ∃ (w' : Nat → xC) (m' : Nat → Int) (R' St' : List Int) (lv' : xL), TR w' m' D R' St' ∧ Fr ksR w w' ∧ mT m m' ∧ m' 5 = 0 ∧ seg D (m' 4) (m' 3) = r1 ∧ m 4 ≤ m' 4 ∧ m' 7 = m 7 + t.length ∧ (∀ j, 0 ≤ j → j < m 7 → j ≠ f → gZ R' j = gZ R j) ∧ gZ R' f = gZ R f + (k - 1) ∧ (∀ j : Nat, j < t.length → gZ R' (m 7 + j) = t.getD j 0) ∧ (∀ j, 0 ≤ j → j < o → gZ St' j = gZ St j) ∧ lT lv' o 0 ∧ ∀ res, Gx q_k100 (d + 2) 134 (lv', [], hp w' N) res → Gx q_k100 (d + 2) 4 (lv, [], hp w N) res
def ABad (d N : Nat) (D : List Int) (w : Nat → xC) (m : Nat → Int) (R : List Int) (lv : xL) (f : Int) : Prop := ∃ (w' : Nat → xC) (m' : Nat → Int) (R' St' : List Int), TR w' m' D R' St' ∧ Fr ksR w w' ∧ mT m m' ∧ m' 5 = 1 ∧ m 7 ≤ m' 7 ∧ (∀ j, 0 ≤ j → j < m 7 → j ≠ f → gZ R' j = gZ R j) ∧ sgR (gZ R' f) ∧ (∀ j, m 7 ≤ j → j < m' 7 → sgR (gZ R' j)) ∧ Gx q_k100 (d + 2) 4 (lv, [], hp w N) (none, hp w' N)
def TAll (d N : Nat) (D : List Int) (n : Nat) : Prop := ∀ (r : List Int) (w : Nat → xC) (m : Nat → Int) (R St : List Int) (o : Int) (lv : xL), TR w m D R St → m 5 = 0 → seg D (m 4) (m 3) = r → 0 ≤ o → o ≤ m 4 → lT lv o 1 → (∀ t r1, rdT n r = some (t, r1) → TOk d N D w m R St lv o t r1) ∧ (rdT n r = none → r.length ≤ 2 * n → TBad d N D w m R lv)
theorem getD_app {a b : List Int} {j : Nat} : (a ++ b).getD j 0 = if j < a.length then a.getD j 0 else b.getD (j - a.length) 0 := by
  rw [List.getD_eq_getElem?_getD]
  split
  · next h => rw [List.getElem?_append_left h, List.getD_eq_getElem?_getD]
  · next h => rw [List.getElem?_append_right (by omega), List.getD_eq_getElem?_getD]
theorem A100 (d : Nat) (hN : 53 ≤ N) (n : Nat) (ih : TAll d N D n) : ∀ (j : Nat) (r : List Int) (w : Nat → xC) (m : Nat → Int) (R St : List Int) (o f L : Int) (lv : xL), j ≤ 2 → TR w m D R St → m 5 = 0 → seg D (m 4) (m 3) = r → 0 ≤ o → o + 1 ≤ m 4 → lT lv (o + 1) 1 → gZ St o = f → 0 ≤ f → f < m 7 → gZ R f = 100 + 4 * L + (3 - (j : Int)) → 0 ≤ L → L < 26 → (∀ k t r1, rdA (rdT n) (j + 1) r = some (k, t, r1) → AOk d N D w m R St lv o f k t r1) ∧ (rdA (rdT n) (j + 1) r = none → r.length ≤ 2 * n → ABad d N D w m R lv f) := by
  intro j
  induction j with
  | zero =>
    intro r w m R St o f L lv hj2 hR h5 hr o0 o1 hl hf f0 f1 hv L0 L1
    have H := ih r w m R St (o + 1) lv hR h5 hr (by omega) o1 hl
    have m3 := hR.2.2.2.2.2.2.2.2.2.1
    cases hT : rdT n r with
    | none =>
      have e : rdA (rdT n) (0 + 1) r = none := by
        unfold rdA
        rw [hT]
      refine ⟨fun k t r1 h => (by rw [e] at h; cases h), fun _ hfu => ?_⟩
      obtain ⟨w', m', R', St', a1, a2, a3, a4, a5, a6, a7, a8⟩ := H.2 hT hfu
      refine ⟨w', m', R', St', a1, a2, a3, a4, a5, fun j j0 j1 _ => a6 j j0 j1, ?_, a7, a8⟩
      rw [a6 f f0 f1, hv]
      exact Or.inr (by omega)
    | some q =>
      obtain ⟨t, r1⟩ := q
      obtain ⟨w1, m1, R1, St1, lv1, a1, a2, a3, a4, a5, a45, a6, a7, a8, a9, a10, a11⟩ := H.1 t r1 hT
      have k3 : m1 3 = m 3 := a3 3 (by decide) (by decide) (by decide)
      have D60 := a1.2.2.1
      have m14 := a1.2.2.2.2.2.2.2.1
      have m143 := a1.2.2.2.2.2.2.2.2.1
      have m174 := a1.2.2.2.2.2.2.2.2.2.2.2.2
      have fv : gZ R1 f = gZ R f := a7 f f0 f1
      have hsg := rdT_sg hT
      have rows : ∀ (R' : List Int) (hi : Int), hi = m1 7 → (∀ j, 0 ≤ j → j < m1 7 → j ≠ f → gZ R' j = gZ R1 j) → ∀ j, m 7 ≤ j → j < hi → sgR (gZ R' j) := fun R' hi e he j j0 j1 => by
        rw [he j (by omega) (by omega) (by omega)]
        have := a8 (j - m 7).toNat (by omega)
        rw [show m 7 + (((j - m 7).toNat : Nat) : Int) = j by omega] at this
        rw [this]
        exact hsg _ (getD_mem (by omega))
      have bad : ∀ (v : Int), TR (uH w1 27 (.inr (8, mF (st_ m1 5 v)))) (st_ m1 5 v) D R1 St1 := fun v => a1.up ((Fr.rf _ _).up (by decide)) (uH_at _ _ _) (by rw [uH_ne (by decide)]; exact a1.2.2.2.1) a1.2.2.2.2.1 (by rw [uH_ne (by decide)]; exact a1.2.2.2.2.2.1) a1.2.2.2.2.2.2.1 (st_ne (by decide)) (by rw [st_ne (by decide)]; exact m14) (by rw [st_ne (by decide)]; exact m143) (by rw [st_ne (by decide)]; exact a1.2.2.2.2.2.2.2.2.2.2.2.1) (by rw [st_ne (by decide), st_ne (by decide)]; exact m174)
      have g134 := T_134 d a1 a4 a10 o0 (by omega) hN
      have other : heZ D (m1 4) (m1 3) ≠ 44 → heZ D (m1 4) (m1 3) ≠ 41 → ABad d N D w m R lv f := fun e1 e2 => by
        refine ⟨_, _, R1, St1, bad 1, (a2.up (by decide)), a3.s5, st_at _ _ _, by rw [st_ne (by decide), a6]; omega, fun j j0 j1 _ => a7 j j0 j1, ?_, ?_, a11 _ (g134 _ (T_149b d hN a1 a10 e1 e2 o0 (by omega)))⟩
        · rw [fv, hv]
          exact Or.inr (by omega)
        · rw [st_ne (by decide)]
          exact rows R1 (m1 7) rfl (fun _ _ _ _ => rfl)
      cases r1 with
      | nil =>
        have e : rdA (rdT n) (0 + 1) r = none := by
          unfold rdA
          rw [hT]
        have h0 := sg_0 m14 (by omega) a5
        exact ⟨fun k t r1 h => (by rw [e] at h; cases h), fun _ _ => other (by omega) (by omega)⟩
      | cons c r2 =>
        obtain ⟨s1, s2, s3⟩ := sg_c m14 (by omega) a5
        by_cases c41 : c = 41
        · have e : rdA (rdT n) (0 + 1) r = some (1, t, r2) := by
            unfold rdA
            rw [hT]
            dsimp only
            rw [if_pos c41]
          refine ⟨fun k t' r1' h => ?_, fun h => by rw [e] at h; cases h⟩
          rw [e] at h
          cases h
          refine ⟨_, _, R1, St1, _, a1.up ((Fr.rf _ _).up (by decide)) (uH_at _ _ _) (by rw [uH_ne (by decide)]; exact a1.2.2.2.1) a1.2.2.2.2.1 (by rw [uH_ne (by decide)]; exact a1.2.2.2.2.2.1) a1.2.2.2.2.2.2.1 (st_ne (by decide)) (by rw [st_at]; omega) (by rw [st_at]; omega) (by rw [st_ne (by decide)]; exact a1.2.2.2.2.2.2.2.2.2.2.2.1) (by rw [st_ne (by decide), st_at]; omega), a2.up (by decide), a3.s4, by rw [st_ne (by decide)]; exact a4, by rw [st_at, st_ne (by decide)]; exact s3, by rw [st_at]; omega, by rw [st_ne (by decide)]; exact a6, fun j j0 j1 _ => a7 j j0 j1, by rw [fv]; omega, a8, fun j j0 j1 => a9 j j0 (by omega), a10.o o, fun res hg => a11 _ (g134 _ (T_149p d hN a1 a10 (by omega) o0 (by omega) res hg))⟩
        · by_cases c44 : c = 44
          · have e : rdA (rdT n) (0 + 1) r = none := by
              unfold rdA
              rw [hT]
              dsimp only
              rw [if_neg c41, if_pos c44]
              rfl
            refine ⟨fun k t r1 h => (by rw [e] at h; cases h), fun _ _ => ?_⟩
            have X := T_149x d hN a1 a10 (by omega) o0 (by omega) f (gZ R1 f) (by rw [a9 o o0 (by omega)]; exact hf) f0 (by omega) rfl (by rw [fv, hv]; omega) (by rw [fv, hv]; omega) (by rw [fv, hv]; omega)
            rw [sZ_same rfl f0 (by rw [a1.2.2.2.2.1]; omega)] at X
            refine ⟨_, _, R1, St1, a1.up (((Fr.rf _ _).up (by decide)).up (by decide)) (by rw [uH_ne (by decide), uH_at]) (by rw [uH_at]) a1.2.2.2.2.1 (by rw [uH_ne (by decide), uH_ne (by decide)]; exact a1.2.2.2.2.2.1) a1.2.2.2.2.2.2.1 (by rw [st_ne (by decide), st_ne (by decide)]) (by rw [st_ne (by decide), st_at]; omega) (by rw [st_ne (by decide), st_at]; omega) (by rw [st_ne (by decide), st_ne (by decide)]; exact a1.2.2.2.2.2.2.2.2.2.2.2.1) (by rw [st_ne (by decide), st_ne (by decide), st_ne (by decide), st_at]; omega), (a2.up (by decide)).up (by decide), a3.s4.s5, st_at _ _ _, by rw [st_ne (by decide), st_ne (by decide), a6]; omega, fun j j0 j1 _ => a7 j j0 j1, ?_, ?_, a11 _ (g134 _ X)⟩
            · rw [fv, hv]
              exact Or.inr (by omega)
            · rw [st_ne (by decide), st_ne (by decide)]
              exact rows R1 (m1 7) rfl (fun _ _ _ _ => rfl)
          · have e : rdA (rdT n) (0 + 1) r = none := by
              unfold rdA
              rw [hT]
              dsimp only
              rw [if_neg c41, if_neg c44]
            exact ⟨fun k t r1 h => (by rw [e] at h; cases h), fun _ _ => other (by omega) (by omega)⟩
  | succ j ihj =>
    intro r w m R St o f L lv hj2 hR h5 hr o0 o1 hl hf f0 f1 hv L0 L1
    have H := ih r w m R St (o + 1) lv hR h5 hr (by omega) o1 hl
    have m3 := hR.2.2.2.2.2.2.2.2.2.1
    cases hT : rdT n r with
    | none =>
      have e : rdA (rdT n) (j + 1 + 1) r = none := by
        unfold rdA
        rw [hT]
      refine ⟨fun k t r1 h => (by rw [e] at h; cases h), fun _ hfu => ?_⟩
      obtain ⟨w', m', R', St', a1, a2, a3, a4, a5, a6, a7, a8⟩ := H.2 hT hfu
      refine ⟨w', m', R', St', a1, a2, a3, a4, a5, fun j j0 j1 _ => a6 j j0 j1, ?_, a7, a8⟩
      rw [a6 f f0 f1, hv]
      exact Or.inr (by omega)
    | some q =>
      obtain ⟨t, r1⟩ := q
      obtain ⟨w1, m1, R1, St1, lv1, a1, a2, a3, a4, a5, a45, a6, a7, a8, a9, a10, a11⟩ := H.1 t r1 hT
      have k3 : m1 3 = m 3 := a3 3 (by decide) (by decide) (by decide)
      have D60 := a1.2.2.1
      have m14 := a1.2.2.2.2.2.2.2.1
      have m143 := a1.2.2.2.2.2.2.2.2.1
      have m174 := a1.2.2.2.2.2.2.2.2.2.2.2.2
      have fv : gZ R1 f = gZ R f := a7 f f0 f1
      have hsg := rdT_sg hT
      have hok := (rdT_ok hT).2
      have rows : ∀ (R' : List Int) (hi : Int), hi = m1 7 → (∀ j, 0 ≤ j → j < m1 7 → j ≠ f → gZ R' j = gZ R1 j) → ∀ j, m 7 ≤ j → j < hi → sgR (gZ R' j) := fun R' hi e he j j0 j1 => by
        rw [he j (by omega) (by omega) (by omega)]
        have := a8 (j - m 7).toNat (by omega)
        rw [show m 7 + (((j - m 7).toNat : Nat) : Int) = j by omega] at this
        rw [this]
        exact hsg _ (getD_mem (by omega))
      have bad : ∀ (v : Int), TR (uH w1 27 (.inr (8, mF (st_ m1 5 v)))) (st_ m1 5 v) D R1 St1 := fun v => a1.up ((Fr.rf _ _).up (by decide)) (uH_at _ _ _) (by rw [uH_ne (by decide)]; exact a1.2.2.2.1) a1.2.2.2.2.1 (by rw [uH_ne (by decide)]; exact a1.2.2.2.2.2.1) a1.2.2.2.2.2.2.1 (st_ne (by decide)) (by rw [st_ne (by decide)]; exact m14) (by rw [st_ne (by decide)]; exact m143) (by rw [st_ne (by decide)]; exact a1.2.2.2.2.2.2.2.2.2.2.2.1) (by rw [st_ne (by decide), st_ne (by decide)]; exact m174)
      have g134 := T_134 d a1 a4 a10 o0 (by omega) hN
      have other : heZ D (m1 4) (m1 3) ≠ 44 → heZ D (m1 4) (m1 3) ≠ 41 → ABad d N D w m R lv f := fun e1 e2 => by
        refine ⟨_, _, R1, St1, bad 1, (a2.up (by decide)), a3.s5, st_at _ _ _, by rw [st_ne (by decide), a6]; omega, fun j j0 j1 _ => a7 j j0 j1, ?_, ?_, a11 _ (g134 _ (T_149b d hN a1 a10 e1 e2 o0 (by omega)))⟩
        · rw [fv, hv]
          exact Or.inr (by omega)
        · rw [st_ne (by decide)]
          exact rows R1 (m1 7) rfl (fun _ _ _ _ => rfl)
      cases r1 with
      | nil =>
        have e : rdA (rdT n) (j + 1 + 1) r = none := by
          unfold rdA
          rw [hT]
        have h0 := sg_0 m14 (by omega) a5
        exact ⟨fun k t r1 h => (by rw [e] at h; cases h), fun _ _ => other (by omega) (by omega)⟩
      | cons c r2 =>
        obtain ⟨s1, s2, s3⟩ := sg_c m14 (by omega) a5
        by_cases c41 : c = 41
        · have e : rdA (rdT n) (j + 1 + 1) r = some (1, t, r2) := by
            unfold rdA
            rw [hT]
            dsimp only
            rw [if_pos c41]
          refine ⟨fun k t' r1' h => ?_, fun h => by rw [e] at h; cases h⟩
          rw [e] at h
          cases h
          refine ⟨_, _, R1, St1, _, a1.up ((Fr.rf _ _).up (by decide)) (uH_at _ _ _) (by rw [uH_ne (by decide)]; exact a1.2.2.2.1) a1.2.2.2.2.1 (by rw [uH_ne (by decide)]; exact a1.2.2.2.2.2.1) a1.2.2.2.2.2.2.1 (st_ne (by decide)) (by rw [st_at]; omega) (by rw [st_at]; omega) (by rw [st_ne (by decide)]; exact a1.2.2.2.2.2.2.2.2.2.2.2.1) (by rw [st_ne (by decide), st_at]; omega), a2.up (by decide), a3.s4, by rw [st_ne (by decide)]; exact a4, by rw [st_at, st_ne (by decide)]; exact s3, by rw [st_at]; omega, by rw [st_ne (by decide)]; exact a6, fun j j0 j1 _ => a7 j j0 j1, by rw [fv]; omega, a8, fun j j0 j1 => a9 j j0 (by omega), a10.o o, fun res hg => a11 _ (g134 _ (T_149p d hN a1 a10 (by omega) o0 (by omega) res hg))⟩
        · by_cases c44 : c = 44
          · have X := T_149c d hN a1 a10 (by omega) o0 (by omega) f (gZ R1 f) (by rw [a9 o o0 (by omega)]; exact hf) f0 (by omega) rfl (by rw [fv, hv]; omega) (by rw [fv, hv]; omega) (by rw [fv, hv]; omega)
            have n38 := a1.2.2.2.2.1
            have hR2 : TR (uH (uH w1 27 (.inr (8, mF (st_ (st_ m1 4 (m1 4 + 1)) 5 0)))) 38 (cI 0 (sZ R1 f (gZ R1 f + 1)))) (st_ (st_ m1 4 (m1 4 + 1)) 5 0) D (sZ R1 f (gZ R1 f + 1)) St1 := a1.up (((Fr.rf _ _).up (by decide)).up (by decide)) (by rw [uH_ne (by decide), uH_at]) (by rw [uH_at]) (by rw [sZ_len]; exact n38) (by rw [uH_ne (by decide), uH_ne (by decide)]; exact a1.2.2.2.2.2.1) a1.2.2.2.2.2.2.1 (by rw [st_ne (by decide), st_ne (by decide)]) (by rw [st_ne (by decide), st_at]; omega) (by rw [st_ne (by decide), st_at]; omega) (by rw [st_ne (by decide), st_ne (by decide)]; exact a1.2.2.2.2.2.2.2.2.2.2.2.1) (by rw [st_ne (by decide), st_ne (by decide), st_ne (by decide), st_at]; omega)
            have eR : ∀ i, 0 ≤ i → gZ (sZ R1 f (gZ R1 f + 1)) i = if f = i then gZ R1 f + 1 else gZ R1 i := fun i i0 => gZ_sZ f0 (by omega) i0
            have z7 : (st_ (st_ m1 4 (m1 4 + 1)) 5 0) 7 = m1 7 := by rw [st_ne (by decide), st_ne (by decide)]
            have z4 : (st_ (st_ m1 4 (m1 4 + 1)) 5 0) 4 = m1 4 + 1 := by rw [st_ne (by decide), st_at]
            have Y := ihj r2 _ _ _ _ o f L _ (by omega) hR2 (st_at _ _ _) (by rw [st_ne (by decide), st_at, st_ne (by decide), st_ne (by decide)]; exact s3) o0 (by rw [z4]; omega) ((a10.m 1).st (q := 4) (v := .int (iZ f)) (by decide) rfl) (by rw [a9 o o0 (by omega)]; exact hf) f0 (by rw [z7]; omega) (by rw [eR f f0, if_pos rfl, fv, hv]; omega) L0 L1
            have Fa : Fr ksR w (uH (uH w1 27 (.inr (8, mF (st_ (st_ m1 4 (m1 4 + 1)) 5 0)))) 38 (cI 0 (sZ R1 f (gZ R1 f + 1)))) := (a2.up (by decide)).up (by decide)
            have Ma : mT m (st_ (st_ m1 4 (m1 4 + 1)) 5 0) := a3.s4.s5
            cases hA : rdA (rdT n) (j + 1) r2 with
            | none =>
              have e : rdA (rdT n) (j + 1 + 1) r = none := by
                rw [rdA, hT]
                dsimp only
                rw [if_neg c41, if_pos c44, hA]
              refine ⟨fun k t r1 h => (by rw [e] at h; cases h), fun _ hfu => ?_⟩
              simp only [List.length_cons] at hok
              obtain ⟨w', m', R', St', b1, b2, b3, b4, b5, b6, b7, b8, b9⟩ := Y.2 hA (by omega)
              rw [z7] at b5 b6 b8
              refine ⟨w', m', R', St', b1, Fa.tr b2, Ma.tr b3, b4, by omega, fun j j0 j1 jf => ?_, b7, fun j j0 j1 => ?_, a11 _ (g134 _ (X _ b9))⟩
              · rw [b6 j j0 (by omega) jf, eR j j0, if_neg (fun z => jf z.symm)]
                exact a7 j j0 j1
              · by_cases hj : j < m1 7
                · refine rows R' (m1 7) rfl (fun i i0 i1 i2 => ?_) j j0 hj
                  rw [b6 i i0 i1 i2, eR i i0, if_neg (fun z => i2 z.symm)]
                · exact b8 j (by omega) j1
            | some q =>
              obtain ⟨k0, ts0, r20⟩ := q
              have e : rdA (rdT n) (j + 1 + 1) r = some (k0 + 1, t ++ ts0, r20) := by
                rw [rdA, hT]
                dsimp only
                rw [if_neg c41, if_pos c44, hA]
              refine ⟨fun k t' r1' h => ?_, fun h => by rw [e] at h; cases h⟩
              rw [e] at h
              cases h
              obtain ⟨w', m', R', St', lv', b1, b2, b3, b4, b5, b45, b6, b7, b8, b9, b10, b11, b12⟩ := Y.1 _ _ _ hA
              rw [z7] at b6 b7 b9
              rw [z4] at b45
              refine ⟨w', m', R', St', lv', b1, Fa.tr b2, Ma.tr b3, b4, b5, by omega, by rw [b6, a6, List.length_append]; omega, fun j j0 j1 jf => ?_, ?_, fun j hj => ?_, fun j j0 j1 => (b10 j j0 j1).trans (a9 j j0 (by omega)), b11, fun res hg => a11 _ (g134 _ (X _ (b12 _ hg)))⟩
              · rw [b7 j j0 (by omega) jf, eR j j0, if_neg (fun z => jf z.symm)]
                exact a7 j j0 j1
              · rw [b8, eR f f0, if_pos rfl, fv]
                omega
              · rw [List.length_append] at hj
                rw [getD_app]
                by_cases hjt : j < t.length
                · rw [if_pos hjt, b7 _ (by omega) (by omega) (by omega), eR _ (by omega), if_neg (by omega)]
                  exact a8 j hjt
                · rw [if_neg hjt]
                  have := b9 (j - t.length) (by omega)
                  rw [show m1 7 + ((j - t.length : Nat) : Int) = m 7 + (j : Int) by omega] at this
                  exact this
          · have e : rdA (rdT n) (j + 1 + 1) r = none := by
              rw [rdA, hT]
              dsimp only
              rw [if_neg c41, if_neg c44]
            exact ⟨fun k t r1 h => (by rw [e] at h; cases h), fun _ _ => other (by omega) (by omega)⟩
theorem T100 (d : Nat) (hN : 53 ≤ N) : ∀ n : Nat, TAll d N D n := by
  have badc : ∀ (w : Nat → xC) (m : Nat → Int) (R St : List Int) (o : Int) (lv : xL), TR w m D R St → m 5 = 0 → lT lv o 1 → ¬ (65 ≤ heZ D (m 4) (m 3) ∧ heZ D (m 4) (m 3) ≤ 90) → ¬ (97 ≤ heZ D (m 4) (m 3) ∧ heZ D (m 4) (m 3) ≤ 122) → TBad d N D w m R lv := by
    intro w m R St o lv hR h5 hl e1 e2
    have L3 := hl.st (q := 3) (v := .int (iZ (heZ D (m 4) (m 3)))) (by decide) rfl
    have rg : 0 ≤ heZ D (m 4) (m 3) ∧ heZ D (m 4) (m 3) < 128 := by
      unfold heZ
      split
      · next h => exact hR.2.2.2.2.2.2.2.2.2.2.1 _ hR.2.2.2.2.2.2.2.1 h
      · omega
    have X := T_20b d hN hR L3 (by rw [lk_s hl.1]; rfl) rg.1 rg.2 e1 e2
    refine ⟨_, _, R, St, hR.up ((Fr.rf _ _).up (by decide)) (uH_at _ _ _) (by rw [uH_ne (by decide)]; exact hR.2.2.2.1) hR.2.2.2.2.1 (by rw [uH_ne (by decide)]; exact hR.2.2.2.2.2.1) hR.2.2.2.2.2.2.1 (st_ne (by decide)) (by rw [st_ne (by decide)]; exact hR.2.2.2.2.2.2.2.1) (by rw [st_ne (by decide)]; exact hR.2.2.2.2.2.2.2.2.1) (by rw [st_ne (by decide)]; exact hR.2.2.2.2.2.2.2.2.2.2.2.1) (by rw [st_ne (by decide), st_ne (by decide)]; exact hR.2.2.2.2.2.2.2.2.2.2.2.2), (Fr.rf _ _).up (by decide), (mT.rf m).s5, st_at _ _ _, by rw [st_ne (by decide)]; omega, fun _ _ _ => rfl, fun j j0 j1 => ?_, T_4 d hN hR hl h5 _ X⟩
    rw [st_ne (by decide)] at j1
    omega
  intro n
  induction n with
  | zero =>
    intro r w m R St o lv hR h5 hr o0 o1 hl
    refine ⟨fun t r1 h => (by cases h), fun _ hf => ?_⟩
    have : r = [] := List.length_eq_zero_iff.mp (by omega)
    subst this
    have m3 := hR.2.2.2.2.2.2.2.2.2.1
    have h0 := sg_0 hR.2.2.2.2.2.2.2.1 (by rw [hR.2.2.1]; omega) hr
    exact badc w m R St o lv hR h5 hl (by omega) (by omega)
  | succ n ih =>
    intro r w m R St o lv hR h5 hr o0 o1 hl
    have m3 := hR.2.2.2.2.2.2.2.2.2.1
    have m4 := hR.2.2.2.2.2.2.2.1
    have m74 := hR.2.2.2.2.2.2.2.2.2.2.2.2
    have m7 := hR.2.2.2.2.2.2.2.2.2.2.2.1
    have n38 := hR.2.2.2.2.1
    have hD := hR.2.2.1
    cases r with
    | nil =>
      have h0 := sg_0 m4 (by rw [hD]; omega) hr
      exact ⟨fun t r1 h => (by cases h), fun _ _ => badc w m R St o lv hR h5 hl (by omega) (by omega)⟩
    | cons c r =>
      obtain ⟨s1, s2, s3⟩ := sg_c m4 (by rw [hD]; omega) hr
      have L3 := hl.st (q := 3) (v := .int (iZ (heZ D (m 4) (m 3)))) (by decide) rfl
      have l3 : x_lk ((3, .int (iZ (heZ D (m 4) (m 3)))) :: lv.filter (x_keep 3)) 3 = some (.int (iZ c)) := by rw [lk_s hl.1, s2]; rfl
      have g4 := T_4 d hN hR hl h5
      have adv : ∀ v, TR (uH (uH w 27 (.inr (8, mF (st_ (st_ m 4 (m 4 + 1)) 7 (m 7 + 1))))) 38 (cI 0 (sZ R (m 7) v))) (st_ (st_ m 4 (m 4 + 1)) 7 (m 7 + 1)) D (sZ R (m 7) v) St := fun v => hR.up (((Fr.rf _ _).up (by decide)).up (by decide)) (by rw [uH_ne (by decide), uH_at]) (by rw [uH_at]) (by rw [sZ_len]; exact n38) (by rw [uH_ne (by decide), uH_ne (by decide)]; exact hR.2.2.2.2.2.1) hR.2.2.2.2.2.2.1 (by rw [st_ne (by decide), st_ne (by decide)]) (by rw [st_ne (by decide), st_at]; omega) (by rw [st_ne (by decide), st_at]; omega) (by rw [st_at]; omega) (by rw [st_at, st_ne (by decide), st_at]; omega)
      have eR : ∀ v i, 0 ≤ i → gZ (sZ R (m 7) v) i = if m 7 = i then v else gZ R i := fun v i i0 => gZ_sZ m7 (by omega) i0
      have one : ∀ v, gZ (sZ R (m 7) v) (m 7 + ((0 : Nat) : Int)) = v := fun v => by
        rw [show m 7 + ((0 : Nat) : Int) = m 7 by omega, eR v _ m7, if_pos rfl]
      have Fv : ∀ v, Fr ksR w (uH (uH w 27 (.inr (8, mF (st_ (st_ m 4 (m 4 + 1)) 7 (m 7 + 1))))) 38 (cI 0 (sZ R (m 7) v))) := fun v => ((Fr.rf _ _).up (by decide)).up (by decide)
      have Mv : mT m (st_ (st_ m 4 (m 4 + 1)) 7 (m 7 + 1)) := (mT.rf m).s4.s7
      have z3 : (st_ (st_ m 4 (m 4 + 1)) 7 (m 7 + 1)) 3 = m 3 := by rw [st_ne (by decide), st_ne (by decide)]
      have z4 : (st_ (st_ m 4 (m 4 + 1)) 7 (m 7 + 1)) 4 = m 4 + 1 := by rw [st_ne (by decide), st_at]
      have z5 : (st_ (st_ m 4 (m 4 + 1)) 7 (m 7 + 1)) 5 = 0 := by rw [st_ne (by decide), st_ne (by decide)]; exact h5
      have z7 : (st_ (st_ m 4 (m 4 + 1)) 7 (m 7 + 1)) 7 = m 7 + 1 := st_at _ _ _
      by_cases hv : 65 ≤ c ∧ c ≤ 90
      · have e : rdT (n + 1) (c :: r) = some ([c - 65], r) := by
          unfold rdT
          rw [if_pos hv]
        refine ⟨fun t r1 h => ?_, fun h => by rw [e] at h; cases h⟩
        rw [e] at h
        cases h
        refine ⟨_, _, _, St, _, adv (c - 65), Fv _, Mv, z5, by rw [z4, z3]; exact s3, by rw [z4]; omega, by rw [z7]; rfl, fun j j0 j1 => by rw [eR _ j j0, if_neg (by omega)], fun j hj => ?_, fun _ _ _ => rfl, L3.m 0, fun res hg => g4 _ (T_20v d hN hR L3 l3 hv.1 hv.2 res hg)⟩
        have : j = 0 := by
          simp only [List.length_cons, List.length_nil] at hj
          omega
        subst this
        exact one _
      · by_cases hf : 97 ≤ c ∧ c ≤ 122
        · have sm : TR (uH (uH w 27 (.inr (8, mF (st_ (st_ m 4 (m 4 + 1)) 7 (m 7 + 1))))) 38 (cI 0 (sZ R (m 7) (100 + 4 * (c - 97))))) (st_ (st_ m 4 (m 4 + 1)) 7 (m 7 + 1)) D (sZ R (m 7) (100 + 4 * (c - 97))) St := adv _
          have g20 := T_20f d hN hR L3 l3 hf.1 hf.2
          have plain : heZ D (m 4 + 1) (m 3) ≠ 40 → TOk d N D w m R St lv o [100 + 4 * (c - 97)] r := fun e40 => by
            refine ⟨_, _, _, St, _, sm, Fv _, Mv, z5, by rw [z4, z3]; exact s3, by rw [z4]; omega, by rw [z7]; rfl, fun j j0 j1 => by rw [eR _ j j0, if_neg (by omega)], fun j hj => ?_, fun _ _ _ => rfl, L3.m 0, fun res hg => g4 _ (g20 _ (T_85n d hN sm L3 (by rw [z4, z3]; exact e40) res hg))⟩
            have : j = 0 := by
              simp only [List.length_cons, List.length_nil] at hj
              omega
            subst this
            exact one _
          cases r with
          | nil =>
            have e : rdT (n + 1) [c] = some ([100 + 4 * (c - 97)], []) := by
              rw [rdT, if_neg hv, if_pos hf]
            refine ⟨fun t r1 h => ?_, fun h => by rw [e] at h; cases h⟩
            rw [e] at h
            cases h
            have := sg_0 (a := m 4 + 1) (by omega) (by rw [hD]; omega) s3
            exact plain (by omega)
          | cons c2 r2 =>
            obtain ⟨u1, u2, u3⟩ := sg_c (a := m 4 + 1) (by omega) (by rw [hD]; omega) s3
            by_cases c40 : c2 = 40
            · have X := T_85y d hN sm L3 (by rw [z4, z3]; omega) o0 (by omega) (by rw [z7]; omega)
              rw [z4, z7, show m 7 + 1 - 1 = m 7 by omega, eR _ (m 7) m7, if_pos rfl] at X
              have n2 : (sZ R (m 7) (100 + 4 * (c - 97))).length = 600 := by rw [sZ_len]; exact n38
              have n49 := hR.2.2.2.2.2.2.1
              obtain ⟨R2, hR2e⟩ : ∃ R2, R2 = sZ (sZ R (m 7) (100 + 4 * (c - 97))) (m 7) (100 + 4 * (c - 97) + 1) := ⟨_, rfl⟩
              obtain ⟨m2, hm2⟩ : ∃ m2, m2 = st_ (st_ (st_ m 4 (m 4 + 1)) 7 (m 7 + 1)) 4 (m 4 + 1 + 1) := ⟨_, rfl⟩
              obtain ⟨w2, hw2⟩ : ∃ w2, w2 = uH (uH (uH (uH (uH w 27 (.inr (8, mF (st_ (st_ m 4 (m 4 + 1)) 7 (m 7 + 1))))) 38 (cI 0 (sZ R (m 7) (100 + 4 * (c - 97))))) 27 (.inr (8, mF m2))) 38 (cI 0 R2)) 49 (cI 0 (sZ St o (m 7))) := ⟨_, rfl⟩
              rw [← hR2e, ← hm2, ← hw2] at X
              have y3 : m2 3 = m 3 := by rw [hm2, st_ne (by decide), z3]
              have y4 : m2 4 = m 4 + 1 + 1 := by rw [hm2, st_at]
              have y5 : m2 5 = 0 := by rw [hm2, st_ne (by decide), z5]
              have y7 : m2 7 = m 7 + 1 := by rw [hm2, st_ne (by decide), z7]
              have tr2 : TR w2 m2 D R2 (sZ St o (m 7)) := by
                refine sm.up (w' := w2) ?_ ?_ ?_ ?_ ?_ ?_ ?_ ?_ ?_ ?_ ?_
                · rw [hw2]
                  exact (((Fr.rf _ _).up (by decide)).up (by decide)).up (by decide)
                · rw [hw2, uH_ne (by decide), uH_ne (by decide), uH_at]
                · rw [hw2, uH_ne (by decide), uH_at]
                · rw [hR2e, sZ_len]; exact n2
                · rw [hw2, uH_at]
                · rw [sZ_len]; exact n49
                · rw [y3, z3]
                · omega
                · rw [z3]; omega
                · omega
                · omega
              have e2 : ∀ i, 0 ≤ i → gZ R2 i = if m 7 = i then 100 + 4 * (c - 97) + 1 else gZ R i := fun i i0 => by
                rw [hR2e, gZ_sZ m7 (by omega) i0]
                by_cases hi : m 7 = i
                · rw [if_pos hi, if_pos hi]
                · rw [if_neg hi, if_neg hi, eR _ i i0, if_neg hi]
              have eS : ∀ i, 0 ≤ i → gZ (sZ St o (m 7)) i = if o = i then m 7 else gZ St i := fun i i0 => gZ_sZ o0 (by omega) i0
              have F2 : Fr ksR w w2 := by
                rw [hw2]
                exact ((((Fv _).up (by decide)).up (by decide)).up (by decide))
              have M2 : mT m m2 := by
                rw [hm2]
                exact Mv.s4
              have Y := A100 d hN n ih 2 r2 w2 m2 R2 _ o (m 7) (c - 97) _ (by omega) tr2 y5 (by rw [y4, y3]; exact u3) o0 (by omega) ((L3.m 1).o (o + 1)) (by rw [eS o o0, if_pos rfl]) m7 (by omega) (by rw [e2 _ m7, if_pos rfl]; omega) (by omega) (by omega)
              cases hA : rdA (rdT n) 3 r2 with
              | none =>
                have e : rdT (n + 1) (c :: c2 :: r2) = none := by
                  rw [rdT, if_neg hv, if_pos hf]
                  rw [if_pos c40, hA]
                refine ⟨fun t r1 h => (by rw [e] at h; cases h), fun _ hfu => ?_⟩
                simp only [List.length_cons] at hfu
                obtain ⟨w', m', R', St', b1, b2, b3, b4, b5, b6, b7, b8, b9⟩ := Y.2 hA (by omega)
                refine ⟨w', m', R', St', b1, F2.tr b2, M2.tr b3, b4, by omega, fun j j0 j1 => ?_, fun j j0 j1 => ?_, g4 _ (g20 _ (X _ b9))⟩
                · rw [b6 j j0 (by omega) (by omega), e2 j j0, if_neg (by omega)]
                · by_cases hj : j = m 7
                  · rw [hj]
                    exact b7
                  · exact b8 j (by omega) j1
              | some q =>
                obtain ⟨k, ts, r3⟩ := q
                have e : rdT (n + 1) (c :: c2 :: r2) = some ((100 + 4 * (c - 97) + k) :: ts, r3) := by
                  rw [rdT, if_neg hv, if_pos hf]
                  rw [if_pos c40, hA]
                refine ⟨fun t r1 h => ?_, fun h => by rw [e] at h; cases h⟩
                rw [e] at h
                cases h
                obtain ⟨w', m', R', St', lv', b1, b2, b3, b4, b5, b45, b6, b7, b8, b9, b10, b11, b12⟩ := Y.1 _ _ _ hA
                refine ⟨w', m', R', St', lv', b1, F2.tr b2, M2.tr b3, b4, b5, by omega, by rw [b6, y7, List.length_cons]; omega, fun j j0 j1 => ?_, fun j hj => ?_, fun j j0 j1 => ?_, b11, fun res hg => g4 _ (g20 _ (X _ (b12 _ hg)))⟩
                · rw [b7 j j0 (by omega) (by omega), e2 j j0, if_neg (by omega)]
                · cases j with
                  | zero =>
                    rw [show m 7 + ((0 : Nat) : Int) = m 7 by omega, b8, e2 _ m7, if_pos rfl]
                    show _ = 100 + 4 * (c - 97) + k
                    omega
                  | succ j =>
                    simp only [List.length_cons] at hj
                    have := b9 j (by omega)
                    rw [y7, show m 7 + 1 + (j : Int) = m 7 + ((j + 1 : Nat) : Int) by omega] at this
                    exact this
                · rw [b10 j j0 j1, eS j j0, if_neg (by omega)]
            · have e : rdT (n + 1) (c :: c2 :: r2) = some ([100 + 4 * (c - 97)], c2 :: r2) := by
                rw [rdT, if_neg hv, if_pos hf]
                rw [if_neg c40]
              refine ⟨fun t r1 h => ?_, fun h => by rw [e] at h; cases h⟩
              rw [e] at h
              cases h
              exact plain (by omega)
        · have e : rdT (n + 1) (c :: r) = none := by
            unfold rdT
            rw [if_neg hv, if_neg hf]
          exact ⟨fun t r1 h => (by rw [e] at h; cases h), fun _ _ => badc w m R St o lv hR h5 hl (by rw [s2]; exact hv) (by rw [s2]; exact hf)⟩
end TI
