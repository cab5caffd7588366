/-! the reference: made, each rule -/

def MD (d N : Nat) (w : Nat → xC) (m : Nat → Int) (x : Nat → List Int) (as : List Value) (fit : Prop) (a b : List Int) (L : List (Int × List Int)) : Prop := ∃ (rr : Int) (w' : Nat → xC) (m' : Nat → Int) (x' : Nat → List Int) (C' : List (Int × List Int)), RO w' m' x' ∧ Fr ksQ w w' ∧ (∀ j, ¬ j ∈ ksQ → x' j = x j) ∧ RI x' ∧ mFr9 m m' ∧ RZ fit a b L rr C' ∧ (rr = 0 → RW C' (x' 38) (x' 39) (x' 41) ∧ m' 8 = C'.length ∧ m' 7 = (flt C').length) ∧ Xc d 125 as (hp w N) (some (.int (iZ rr)), hp w' N)
section MZ
variable {w : Nat → xC} {N : Nat} {m : Nat → Int} {x : Nat → List Int} {D D2 : List (Int × List Int)} {i j : Int}
theorem MD.fin {w' : Nat → xC} {m' : Nat → Int} {x' : Nat → List Int} {d : Nat} {r i k j l p rr : Int} (h : RO w m x) (g : RO w' m' x') (F : Fr ksQ w w') (G : Gx q_k125 (d + 4) 0 (lv_args 0 [.ref 30, .int (iZ r), .int (iZ i), .int (iZ k), .int (iZ j), .int (iZ l), .int (iZ p)], [], hp w N) (some (.int (iZ rr)), hp w' N)) : Xc (d + 5) 125 [.ref 30, .int (iZ r), .int (iZ i), .int (iZ k), .int (iZ j), .int (iZ l), .int (iZ p)] (hp w N) (some (.int (iZ rr)), hp w' N) :=
  Xc.of rfl (by simp [lg_sl, Value.category]) G (h.le g (fun j hj => by
    rw [F j (by
      unfold ksQ
      simp only [List.mem_cons, List.not_mem_nil, or_false]
      omega)]
    exact Nat.le_refl _))
theorem mFr9.rf (m : Nat → Int) : mFr9 m m := fun _ _ _ _ _ => rfl
theorem P125_0 (d : Nat) (hN : 53 ≤ N) (h : RO w m x) (hI : RI x) (r i k j l p : Int) (hr : r = 1 ∨ r = 2) (h1 : RD i D x) :
    ∃ (w0 : Nat → xC) (x0 : Nat → List Int) (lv : xL), RO w0 m x0 ∧ Fr [45, 46] w w0 ∧ (∀ j, ¬ j ∈ ([45, 46] : List Nat) → x0 j = x j) ∧ RI x0 ∧ LD 0 D (x0 45) ∧ (∀ v, 0 ≤ v → v < 52 → gZ (x0 46) v = -1) ∧ lv7 lv r i k j l p ∧ x_lk lv 7 = some (.int (iZ 0)) ∧ ∀ res, Gx q_k125 (d + 4) 62 (lv, [], hp w0 N) res → Gx q_k125 (d + 4) 0 (lv_args 0 [.ref 30, .int (iZ r), .int (iZ i), .int (iZ k), .int (iZ j), .int (iZ l), .int (iZ p)], [], hp w N) res := by
  obtain ⟨S, Bd, lv, s1, s2, s3, s5, s6, s7, s8, s9⟩ := s125_0 d hN h hI r i k j l p hr h1
  have R0 : RO (uH (uH w 46 (cI 0 Bd)) 45 (cI 0 S)) m (ux (ux x 46 Bd) 45 S) := (h.set (j := 46) (l := Bd) (by decide) s5).set (j := 45) (l := S) (by decide) s1
  exact ⟨uH (uH w 46 (cI 0 Bd)) 45 (cI 0 S), ux (ux x 46 Bd) 45 S, lv, R0, ((Fr.rf _ _).up (by decide)).up (by decide), fun j hj => by
    simp only [List.mem_cons, List.not_mem_nil, or_false, not_or] at hj
    rw [ux_ne hj.1, ux_ne hj.2], ⟨s2, hI.2⟩, s3, s6, s7, s8, s9⟩
theorem P125_1 (d : Nat) (hN : 53 ≤ N) (h : RO w m x) (hI : RI x) (r i k j l p : Int) (hr : r = 0 ∨ r = 3) (h1 : RD i D x) (h2 : RD j D2 x) :
    ∃ (w0 : Nat → xC) (x0 : Nat → List Int) (lv : xL), RO w0 m x0 ∧ Fr [45, 46] w w0 ∧ (∀ j, ¬ j ∈ ([45, 46] : List Nat) → x0 j = x j) ∧ RI x0 ∧ LD 0 D (x0 45) ∧ LD 44 (shC D2) (x0 45) ∧ (∀ v, 0 ≤ v → v < 52 → gZ (x0 46) v = -1) ∧ lv7 lv r i k j l p ∧ x_lk lv 7 = some (.int (iZ 1)) ∧ ∀ res, Gx q_k125 (d + 4) 62 (lv, [], hp w0 N) res → Gx q_k125 (d + 4) 0 (lv_args 0 [.ref 30, .int (iZ r), .int (iZ i), .int (iZ k), .int (iZ j), .int (iZ l), .int (iZ p)], [], hp w N) res := by
  obtain ⟨S, Bd, lv, s1, s2, s3, s4, s5, s6, s7, s8, s9⟩ := s125_1 d hN h hI r i k j l p hr h1 h2
  have R0 : RO (uH (uH w 46 (cI 0 Bd)) 45 (cI 0 S)) m (ux (ux x 46 Bd) 45 S) := (h.set (j := 46) (l := Bd) (by decide) s5).set (j := 45) (l := S) (by decide) s1
  exact ⟨uH (uH w 46 (cI 0 Bd)) 45 (cI 0 S), ux (ux x 46 Bd) 45 S, lv, R0, ((Fr.rf _ _).up (by decide)).up (by decide), fun j hj => by
    simp only [List.mem_cons, List.not_mem_nil, or_false, not_or] at hj
    rw [ux_ne hj.1, ux_ne hj.2], ⟨s2, hI.2⟩, s3, s4, s6, s7, s8, s9⟩
set_option maxHeartbeats 1000000 in
theorem m125_0 (d : Nat) (hN : 53 ≤ N) (h : RO w m x) (hI : RI x) (h1 : RD i D x) (h2 : RD j D2 x) (k l : Nat) (hk : k < D.length) (lb : l < D2.length) (p : Int) (pr : -2147483648 ≤ p ∧ p < 2147483648) : MD (d + 5) N w m x [.ref 30, .int (iZ 0), .int (iZ i), .int (iZ k), .int (iZ j), .int (iZ l), .int (iZ p)] ((lC D k).1 ≠ (lC D2 l).1) (lC D k).2 (lC (shC D2) l).2 (oth k 0 D ++ oth l 0 (shC D2)) := by
  obtain ⟨w0, x0, lv, R0, F0, e0, I0, L1, L2, hb, hl, l7, hg⟩ := P125_1 d hN h hI 0 i k j l p (Or.inl rfl) h1 h2
  have r_ : ∀ j, 28 ≤ j → j ≤ 51 → w0 j = cI (kdR j) (x0 j) ∧ (x0 j).length = lnR j := R0.2
  have h1' := h1.mv (e0 30 (by decide)) (e0 29 (by decide)) (e0 33 (by decide)) (e0 28 (by decide))
  have FQ0 := F0.sub kLQ
  have eQ0 : ∀ j, ¬ j ∈ ksQ → x0 j = x j := fun j hj => e0 j (fun z => hj (kLQ j z))
  have hS : w0 45 = cI 0 (x0 45) := (r_ 45 (by decide) (by decide)).1
  have hSl : (x0 45).length = 160 := (r_ 45 (by decide) (by decide)).2
  have hBe : w0 29 = cI 0 (x0 29) := (r_ 29 (by decide) (by decide)).1
  have hBl : (x0 29).length = 210 := (r_ 29 (by decide) (by decide)).2
  have hNg : w0 33 = cI 1 (x0 33) := (r_ 33 (by decide) (by decide)).1
  have hNl : (x0 33).length = 210 := (r_ 33 (by decide) (by decide)).2
  obtain ⟨a4, a5, a6, a7, a8, a9⟩ := h1'.1.2.2.2
  have gD := h1'.2.1
  have gD2 := gD.2.1
  have hT1 := (gD.2.2 _ (lC_mem hk)).2.1
  have A1 := L1.at0 hSl (by omega) hk hT1
  rw [Int.zero_add] at A1
  have sk1 := stC_mono (C := D) (show k ≤ D.length by omega)
  rw [stC_all] at sk1
  have hB : gZ (x0 45) (stC D k) = 99 → Ts 1 (tm (x0 45) ((stC D k : Int) + 1).toNat) := fun h9 => by
    rw [A1.2.2] at h9
    exact (L1.eqs hSl gD2 hk hT1 h9).1.2.2
  have h2' := h2.mv (e0 30 (by decide)) (e0 29 (by decide)) (e0 33 (by decide)) (e0 28 (by decide))
  obtain ⟨b4, b5, b6, b7, b8, b9⟩ := h2'.1.2.2.2
  have gE := h2'.2.1
  have hls : l < (shC D2).length := by rw [shC_len]; exact lb
  have hT2 := (gE.shift _ (lC_mem hls)).2.1
  have gE2 := gE.2.1
  have hf2 : (44 : Int) + (flt (shC D2)).length ≤ 88 := by
    rw [flt_shC, ren_len]
    omega
  have A2 := L2.at0 hSl hf2 hls hT2
  rw [stC_shC] at A2
  have sl1 := stC_mono (C := D2) (show l ≤ D2.length by omega)
  rw [stC_all] at sl1
  by_cases hf : (lC D k).1 ≠ (lC D2 l).1
  · obtain ⟨lv1, hl1, q8, q9, q10, hg1⟩ := y125_0 d hN R0.1 hBe hBl hNg hNl hS hSl i k j l p (stC D k) (stC D2 l) (lC D k).1 (lC D2 l).1 a4 a5 (by omega) (by omega) (a8 k (by omega)) (by omega) (by omega) (a9 k hk).1 (a9 k hk).2 b4 b5 (by omega) (by omega) (b8 l (by omega)) (by omega) (by omega) (b9 l lb).1 (b9 l lb).2  hf lv hl l7 (by omega) (by omega)
    obtain ⟨w1, x1, bb, R1, F1, e1, X, ht, hff⟩ := A113 d hN R0 I0.1 hb (stC D k) (44 + (stC D2 l : Int)) A1.1 A2.1
    rw [A1.2.1, A2.2.1] at ht hff
    obtain ⟨lv2, hl2, hg2⟩ := z125_0 d hN R0.1 hBe hBl hNg hNl hS hSl i k j l p (stC D k) (44 + (stC D2 l : Int)) (by omega) (by omega) pr hB I0.1.2.1 lv1 hl1 q8 q9 q10 bb X
    have I1 := I0.mv (e1 45 (by decide)) (e1 41 (by decide)) (e1 28 (by decide)) (e1 39 (by decide))
    have FQ1 := FQ0.tr (F1.sub kUQ)
    have eQ1 : ∀ j, ¬ j ∈ ksQ → x1 j = x j := fun j hj => (e1 j (fun z => hj (kUQ j z))).trans (eQ0 j hj)
    cases bb with
    | false => exact ⟨-6, w1, m, x1, [], R1, FQ1, eQ1, I1, mFr9.rf m, Or.inr (Or.inl ⟨hf, hff rfl, rfl⟩), fun z => absurd z (by decide), MD.fin h R1 FQ1 (hg _ (hg1 _ (hg2 _ (e125_f d lv2 hl2.1))))⟩
    | true =>
      obtain ⟨ρ, hρ, hM⟩ := ht rfl
      have hV := v125_0 d hN R1 I1 (h1'.mv (e1 30 (by decide)) (e1 29 (by decide)) (e1 33 (by decide)) (e1 28 (by decide))) (h2'.mv (e1 30 (by decide)) (e1 29 (by decide)) (e1 33 (by decide)) (e1 28 (by decide))) (by rw [e1 45 (by decide)]; exact L1) (by rw [e1 45 (by decide)]; exact L2) (ρ := ρ) (by rw [e1 45 (by decide)]; exact hρ) k l hk lb p lv2 hl2
      obtain ⟨rr, w', m', x', C', c1_, c2, c3, c4, c5, c6, c7, c8⟩ := hV
      have FQ2 := FQ1.tr (c2.sub kMQ)
      exact ⟨rr, w', m', x', C', c1_, FQ2, fun j hj => (c3 j (fun z => hj (kMQ j z))).trans (eQ1 j hj), c4, c5, Or.inr (Or.inr ⟨hf, _, hM, c6⟩), c7, MD.fin h c1_ FQ2 (hg _ (hg1 _ (hg2 _ c8)))⟩
  · have hn := n125_0 d hN R0.1 hBe hBl hNg hNl hS hSl i k j l p (stC D k) (stC D2 l) (lC D k).1 (lC D2 l).1 a4 a5 (by omega) (by omega) (a8 k (by omega)) (by omega) (by omega) (a9 k hk).1 (a9 k hk).2 b4 b5 (by omega) (by omega) (b8 l (by omega)) (by omega) (by omega) (b9 l lb).1 (b9 l lb).2  hf lv hl l7 (by omega) (by omega)
    exact ⟨-5, w0, m, x0, [], R0, FQ0, eQ0, I0, mFr9.rf m, Or.inl ⟨hf, rfl⟩, fun z => absurd z (by decide), MD.fin h R0 FQ0 (hg _ hn)⟩
set_option maxHeartbeats 1000000 in
theorem m125_1 (d : Nat) (hN : 53 ≤ N) (h : RO w m x) (hI : RI x) (h1 : RD i D x) (k l : Nat) (hk : k < D.length) (lb : l < D.length) (p : Int) (pr : -2147483648 ≤ p ∧ p < 2147483648) : MD (d + 5) N w m x [.ref 30, .int (iZ 1), .int (iZ i), .int (iZ k), .int (iZ j), .int (iZ l), .int (iZ p)] ((k : Int) ≠ (l : Int) ∧ (lC D k).1 = (lC D l).1) (lC D k).2 (lC D l).2 (oth l 0 D) := by
  obtain ⟨w0, x0, lv, R0, F0, e0, I0, L1, hb, hl, l7, hg⟩ := P125_0 d hN h hI 1 i k j l p (Or.inl rfl) h1
  have r_ : ∀ j, 28 ≤ j → j ≤ 51 → w0 j = cI (kdR j) (x0 j) ∧ (x0 j).length = lnR j := R0.2
  have h1' := h1.mv (e0 30 (by decide)) (e0 29 (by decide)) (e0 33 (by decide)) (e0 28 (by decide))
  have FQ0 := F0.sub kLQ
  have eQ0 : ∀ j, ¬ j ∈ ksQ → x0 j = x j := fun j hj => e0 j (fun z => hj (kLQ j z))
  have hS : w0 45 = cI 0 (x0 45) := (r_ 45 (by decide) (by decide)).1
  have hSl : (x0 45).length = 160 := (r_ 45 (by decide) (by decide)).2
  have hBe : w0 29 = cI 0 (x0 29) := (r_ 29 (by decide) (by decide)).1
  have hBl : (x0 29).length = 210 := (r_ 29 (by decide) (by decide)).2
  have hNg : w0 33 = cI 1 (x0 33) := (r_ 33 (by decide) (by decide)).1
  have hNl : (x0 33).length = 210 := (r_ 33 (by decide) (by decide)).2
  obtain ⟨a4, a5, a6, a7, a8, a9⟩ := h1'.1.2.2.2
  have gD := h1'.2.1
  have gD2 := gD.2.1
  have hT1 := (gD.2.2 _ (lC_mem hk)).2.1
  have A1 := L1.at0 hSl (by omega) hk hT1
  rw [Int.zero_add] at A1
  have sk1 := stC_mono (C := D) (show k ≤ D.length by omega)
  rw [stC_all] at sk1
  have hB : gZ (x0 45) (stC D k) = 99 → Ts 1 (tm (x0 45) ((stC D k : Int) + 1).toNat) := fun h9 => by
    rw [A1.2.2] at h9
    exact (L1.eqs hSl gD2 hk hT1 h9).1.2.2
  have hT2 := (gD.2.2 _ (lC_mem lb)).2.1
  have A2 := L1.at0 hSl (by omega) lb hT2
  rw [Int.zero_add] at A2
  have sl1 := stC_mono (C := D) (show l ≤ D.length by omega)
  rw [stC_all] at sl1
  by_cases hf : (k : Int) ≠ (l : Int) ∧ (lC D k).1 = (lC D l).1
  · obtain ⟨lv1, hl1, q8, q9, q10, hg1⟩ := y125_1 d hN R0.1 hBe hBl hNg hNl hS hSl i k j l p (stC D k) (stC D l) (lC D k).1 (lC D l).1 a4 a5 (by omega) (by omega) (a8 k (by omega)) (by omega) (by omega) (a9 k hk).1 (a9 k hk).2 a4 a5 (by omega) (by omega) (a8 l (by omega)) (by omega) (by omega) (a9 l lb).1 (a9 l lb).2  hf lv hl l7 (by omega) (by omega)
    obtain ⟨w1, x1, bb, R1, F1, e1, X, ht, hff⟩ := A113 d hN R0 I0.1 hb (stC D k) (stC D l) A1.1 A2.1
    rw [A1.2.1, A2.2.1] at ht hff
    obtain ⟨lv2, hl2, hg2⟩ := z125_1 d hN R0.1 hBe hBl hNg hNl hS hSl i k j l p (stC D k) (stC D l) (by omega) (by omega) pr hB I0.1.2.1 lv1 hl1 q8 q9 q10 bb X
    have I1 := I0.mv (e1 45 (by decide)) (e1 41 (by decide)) (e1 28 (by decide)) (e1 39 (by decide))
    have FQ1 := FQ0.tr (F1.sub kUQ)
    have eQ1 : ∀ j, ¬ j ∈ ksQ → x1 j = x j := fun j hj => (e1 j (fun z => hj (kUQ j z))).trans (eQ0 j hj)
    cases bb with
    | false => exact ⟨-6, w1, m, x1, [], R1, FQ1, eQ1, I1, mFr9.rf m, Or.inr (Or.inl ⟨hf, hff rfl, rfl⟩), fun z => absurd z (by decide), MD.fin h R1 FQ1 (hg _ (hg1 _ (hg2 _ (e125_f d lv2 hl2.1))))⟩
    | true =>
      obtain ⟨ρ, hρ, hM⟩ := ht rfl
      have hV := v125_1 d hN R1 I1 (h1'.mv (e1 30 (by decide)) (e1 29 (by decide)) (e1 33 (by decide)) (e1 28 (by decide))) (by rw [e1 45 (by decide)]; exact L1) (ρ := ρ) (by rw [e1 45 (by decide)]; exact hρ) k l hk lb p lv2 hl2
      obtain ⟨rr, w', m', x', C', c1_, c2, c3, c4, c5, c6, c7, c8⟩ := hV
      have FQ2 := FQ1.tr (c2.sub kMQ)
      exact ⟨rr, w', m', x', C', c1_, FQ2, fun j hj => (c3 j (fun z => hj (kMQ j z))).trans (eQ1 j hj), c4, c5, Or.inr (Or.inr ⟨hf, _, hM, c6⟩), c7, MD.fin h c1_ FQ2 (hg _ (hg1 _ (hg2 _ c8)))⟩
  · have hn := n125_1 d hN R0.1 hBe hBl hNg hNl hS hSl i k j l p (stC D k) (stC D l) (lC D k).1 (lC D l).1 a4 a5 (by omega) (by omega) (a8 k (by omega)) (by omega) (by omega) (a9 k hk).1 (a9 k hk).2 a4 a5 (by omega) (by omega) (a8 l (by omega)) (by omega) (by omega) (a9 l lb).1 (a9 l lb).2  hf lv hl l7 (by omega) (by omega)
    exact ⟨-5, w0, m, x0, [], R0, FQ0, eQ0, I0, mFr9.rf m, Or.inl ⟨hf, rfl⟩, fun z => absurd z (by decide), MD.fin h R0 FQ0 (hg _ hn)⟩
set_option maxHeartbeats 1000000 in
theorem m125_2 (d : Nat) (hN : 53 ≤ N) (h : RO w m x) (hI : RI x) (h1 : RD i D x) (k : Nat) (l : Int) (hk : k < D.length) (lr : -2147483648 ≤ l ∧ l < 2147483648) (p : Int) (pr : -2147483648 ≤ p ∧ p < 2147483648) : MD (d + 5) N w m x [.ref 30, .int (iZ 2), .int (iZ i), .int (iZ k), .int (iZ j), .int (iZ l), .int (iZ p)] ((lC D k).2.getD 0 0 = 99 ∧ (lC D k).1 = 1) (tm (lC D k).2 1) (tm (lC D k).2 (1 + (tm (lC D k).2 1).length)) (oth k 0 D) := by
  obtain ⟨w0, x0, lv, R0, F0, e0, I0, L1, hb, hl, l7, hg⟩ := P125_0 d hN h hI 2 i k j l p (Or.inr rfl) h1
  have r_ : ∀ j, 28 ≤ j → j ≤ 51 → w0 j = cI (kdR j) (x0 j) ∧ (x0 j).length = lnR j := R0.2
  have h1' := h1.mv (e0 30 (by decide)) (e0 29 (by decide)) (e0 33 (by decide)) (e0 28 (by decide))
  have FQ0 := F0.sub kLQ
  have eQ0 : ∀ j, ¬ j ∈ ksQ → x0 j = x j := fun j hj => e0 j (fun z => hj (kLQ j z))
  have hS : w0 45 = cI 0 (x0 45) := (r_ 45 (by decide) (by decide)).1
  have hSl : (x0 45).length = 160 := (r_ 45 (by decide) (by decide)).2
  have hBe : w0 29 = cI 0 (x0 29) := (r_ 29 (by decide) (by decide)).1
  have hBl : (x0 29).length = 210 := (r_ 29 (by decide) (by decide)).2
  have hNg : w0 33 = cI 1 (x0 33) := (r_ 33 (by decide) (by decide)).1
  have hNl : (x0 33).length = 210 := (r_ 33 (by decide) (by decide)).2
  obtain ⟨a4, a5, a6, a7, a8, a9⟩ := h1'.1.2.2.2
  have gD := h1'.2.1
  have gD2 := gD.2.1
  have hT1 := (gD.2.2 _ (lC_mem hk)).2.1
  have A1 := L1.at0 hSl (by omega) hk hT1
  rw [Int.zero_add] at A1
  have sk1 := stC_mono (C := D) (show k ≤ D.length by omega)
  rw [stC_all] at sk1
  have hB : gZ (x0 45) (stC D k) = 99 → Ts 1 (tm (x0 45) ((stC D k : Int) + 1).toNat) := fun h9 => by
    rw [A1.2.2] at h9
    exact (L1.eqs hSl gD2 hk hT1 h9).1.2.2
  by_cases hf : (lC D k).2.getD 0 0 = 99 ∧ (lC D k).1 = 1
  · obtain ⟨lv1, hl1, q8, q9, q10, hg1⟩ := y125_2 d hN R0.1 hBe hBl hNg hNl hS hSl i k j l p (stC D k) 0 (lC D k).1 0 a4 a5 (by omega) (by omega) (a8 k (by omega)) (by omega) (by omega) (a9 k hk).1 (a9 k hk).2  (I0.1.2.1 _) ⟨by rw [A1.2.2]; exact hf.1, hf.2⟩ lv hl l7 (by omega) lr
    obtain ⟨o1, o2, o3, o4⟩ := L1.eqs hSl gD2 hk hT1 hf.1
    obtain ⟨w1, x1, bb, R1, F1, e1, X, ht, hff⟩ := A113 d hN R0 I0.1 hb ((stC D k : Int) + 1) ((stC D k : Int) + 1 + (tm (x0 45) ((stC D k : Int) + 1).toNat).length) o1 (by rw [o2]; exact o3)
    rw [o2, o4] at ht hff
    obtain ⟨lv2, hl2, hg2⟩ := z125_2 d hN R0.1 hBe hBl hNg hNl hS hSl i k j l p (stC D k) (stC D k) (by omega) (by omega) pr hB I0.1.2.1 (by rw [A1.2.2]; exact hf.1) lv1 hl1 q8 q9 q10 bb X
    have I1 := I0.mv (e1 45 (by decide)) (e1 41 (by decide)) (e1 28 (by decide)) (e1 39 (by decide))
    have FQ1 := FQ0.tr (F1.sub kUQ)
    have eQ1 : ∀ j, ¬ j ∈ ksQ → x1 j = x j := fun j hj => (e1 j (fun z => hj (kUQ j z))).trans (eQ0 j hj)
    cases bb with
    | false => exact ⟨-6, w1, m, x1, [], R1, FQ1, eQ1, I1, mFr9.rf m, Or.inr (Or.inl ⟨hf, hff rfl, rfl⟩), fun z => absurd z (by decide), MD.fin h R1 FQ1 (hg _ (hg1 _ (hg2 _ (e125_f d lv2 hl2.1))))⟩
    | true =>
      obtain ⟨ρ, hρ, hM⟩ := ht rfl
      have hV := v125_2 d hN R1 I1 (h1'.mv (e1 30 (by decide)) (e1 29 (by decide)) (e1 33 (by decide)) (e1 28 (by decide))) (by rw [e1 45 (by decide)]; exact L1) (ρ := ρ) (by rw [e1 45 (by decide)]; exact hρ) k l hk p lv2 hl2
      obtain ⟨rr, w', m', x', C', c1_, c2, c3, c4, c5, c6, c7, c8⟩ := hV
      have FQ2 := FQ1.tr (c2.sub kMQ)
      exact ⟨rr, w', m', x', C', c1_, FQ2, fun j hj => (c3 j (fun z => hj (kMQ j z))).trans (eQ1 j hj), c4, c5, Or.inr (Or.inr ⟨hf, _, hM, c6⟩), c7, MD.fin h c1_ FQ2 (hg _ (hg1 _ (hg2 _ c8)))⟩
  · have hn := n125_2 d hN R0.1 hBe hBl hNg hNl hS hSl i k j l p (stC D k) 0 (lC D k).1 0 a4 a5 (by omega) (by omega) (a8 k (by omega)) (by omega) (by omega) (a9 k hk).1 (a9 k hk).2  (I0.1.2.1 _) (fun z => hf ⟨by rw [← A1.2.2]; exact z.1, z.2⟩) lv hl l7 (by omega) lr
    exact ⟨-5, w0, m, x0, [], R0, FQ0, eQ0, I0, mFr9.rf m, Or.inl ⟨hf, rfl⟩, fun z => absurd z (by decide), MD.fin h R0 FQ0 (hg _ hn)⟩
set_option maxHeartbeats 1000000 in
theorem m125_3 (d : Nat) (hN : 53 ≤ N) (h : RO w m x) (hI : RI x) (h1 : RD i D x) (h2 : RD j D2 x) (k l : Nat) (hk : k < D.length) (lb : l < D2.length) (p : Int) (pr : -2147483648 ≤ p ∧ p < 2147483648) (q : Nat) (hq : (q : Int) = if 100 ≤ p then p - 100 else p) (hq1 : 1 + q < (lC (shC D2) l).2.length) (hq9 : 99 ≤ (lC (shC D2) l).2.getD (1 + q) 0) : MD (d + 5) N w m x [.ref 30, .int (iZ 3), .int (iZ i), .int (iZ k), .int (iZ j), .int (iZ l), .int (iZ p)] ((lC D k).2.getD 0 0 = 99 ∧ (lC D k).1 = 0) (f3 (lC D k).2 p) (tm (lC (shC D2) l).2 (1 + q)) (oth k 0 D ++ rew l (rw3 (lC (shC D2) l).2 (g3 (lC D k).2 p) q) 0 (shC D2)) := by
  obtain ⟨w0, x0, lv, R0, F0, e0, I0, L1, L2, hb, hl, l7, hg⟩ := P125_1 d hN h hI 3 i k j l p (Or.inr rfl) h1 h2
  have r_ : ∀ j, 28 ≤ j → j ≤ 51 → w0 j = cI (kdR j) (x0 j) ∧ (x0 j).length = lnR j := R0.2
  have h1' := h1.mv (e0 30 (by decide)) (e0 29 (by decide)) (e0 33 (by decide)) (e0 28 (by decide))
  have FQ0 := F0.sub kLQ
  have eQ0 : ∀ j, ¬ j ∈ ksQ → x0 j = x j := fun j hj => e0 j (fun z => hj (kLQ j z))
  have hS : w0 45 = cI 0 (x0 45) := (r_ 45 (by decide) (by decide)).1
  have hSl : (x0 45).length = 160 := (r_ 45 (by decide) (by decide)).2
  have hBe : w0 29 = cI 0 (x0 29) := (r_ 29 (by decide) (by decide)).1
  have hBl : (x0 29).length = 210 := (r_ 29 (by decide) (by decide)).2
  have hNg : w0 33 = cI 1 (x0 33) := (r_ 33 (by decide) (by decide)).1
  have hNl : (x0 33).length = 210 := (r_ 33 (by decide) (by decide)).2
  obtain ⟨a4, a5, a6, a7, a8, a9⟩ := h1'.1.2.2.2
  have gD := h1'.2.1
  have gD2 := gD.2.1
  have hT1 := (gD.2.2 _ (lC_mem hk)).2.1
  have A1 := L1.at0 hSl (by omega) hk hT1
  rw [Int.zero_add] at A1
  have sk1 := stC_mono (C := D) (show k ≤ D.length by omega)
  rw [stC_all] at sk1
  have hB : gZ (x0 45) (stC D k) = 99 → Ts 1 (tm (x0 45) ((stC D k : Int) + 1).toNat) := fun h9 => by
    rw [A1.2.2] at h9
    exact (L1.eqs hSl gD2 hk hT1 h9).1.2.2
  have h2' := h2.mv (e0 30 (by decide)) (e0 29 (by decide)) (e0 33 (by decide)) (e0 28 (by decide))
  obtain ⟨b4, b5, b6, b7, b8, b9⟩ := h2'.1.2.2.2
  have gE := h2'.2.1
  have hls : l < (shC D2).length := by rw [shC_len]; exact lb
  have hT2 := (gE.shift _ (lC_mem hls)).2.1
  have gE2 := gE.2.1
  have hf2 : (44 : Int) + (flt (shC D2)).length ≤ 88 := by
    rw [flt_shC, ren_len]
    omega
  have A2 := L2.at0 hSl hf2 hls hT2
  rw [stC_shC] at A2
  have sl1 := stC_mono (C := D2) (show l ≤ D2.length by omega)
  rw [stC_all] at sl1
  by_cases hf : (lC D k).2.getD 0 0 = 99 ∧ (lC D k).1 = 0
  · obtain ⟨lv1, hl1, q8, q9, q10, hg1⟩ := y125_3 d hN R0.1 hBe hBl hNg hNl hS hSl i k j l p (stC D k) (stC D2 l) (lC D k).1 (lC D2 l).1 a4 a5 (by omega) (by omega) (a8 k (by omega)) (by omega) (by omega) (a9 k hk).1 (a9 k hk).2 b4 b5 (by omega) (by omega) (b8 l (by omega)) (by omega) (by omega) (b9 l lb).1 (b9 l lb).2 (I0.1.2.1 _) ⟨by rw [A1.2.2]; exact hf.1, hf.2⟩ lv hl l7 (by omega) (by omega)
    obtain ⟨o1, o2, o3, o4⟩ := L1.eqs hSl gD2 hk hT1 hf.1
    have at_ := L2.at hSl hf2 hls hT2 hq1
    rw [stC_shC, show (44 : Int) + (stC D2 l : Int) + ((1 + q : Nat) : Int) = 44 + stC D2 l + 1 + q by omega] at at_
    have es := stC_succ lb
    have b8l := b8 l (by omega)
    have b8s := b8 (l + 1) (by omega)
    rw [show 7 * j + ((l + 1 : Nat) : Int) = 7 * j + (l : Int) + 1 by omega] at b8s
    have elen : (lC (shC D2) l).2.length = (lC D2 l).2.length := by
      unfold shC
      rw [lC_map lb, litR_len]
    have es2 := stC_mono (C := D2) (show l + 1 ≤ D2.length from lb)
    rw [stC_all] at es2
    have oa : okp (x0 45) (if 100 ≤ p then (stC D k : Int) + 1 + (tm (x0 45) ((stC D k : Int) + 1).toNat).length else (stC D k : Int) + 1) := by
      split
      · rw [o2]
        exact o3
      · exact o1
    have ea : tm (x0 45) (if 100 ≤ p then (stC D k : Int) + 1 + (tm (x0 45) ((stC D k : Int) + 1).toNat).length else (stC D k : Int) + 1).toNat = f3 (lC D k).2 p := by
      unfold f3
      by_cases hp1 : 100 ≤ p
      · rw [if_pos hp1, if_pos hp1, o2, o4]
      · rw [if_neg hp1, if_neg hp1, o2]
    have ob : okp (x0 45) (if 100 ≤ p then (stC D k : Int) + 1 else (stC D k : Int) + 1 + (tm (x0 45) ((stC D k : Int) + 1).toNat).length) := by
      split
      · exact o1
      · rw [o2]
        exact o3
    have eb : tm (x0 45) (if 100 ≤ p then (stC D k : Int) + 1 else (stC D k : Int) + 1 + (tm (x0 45) ((stC D k : Int) + 1).toNat).length).toNat = g3 (lC D k).2 p := by
      unfold g3
      by_cases hp1 : 100 ≤ p
      · rw [if_pos hp1, if_pos hp1, o2]
      · rw [if_neg hp1, if_neg hp1, o2, o4]
    obtain ⟨w1, x1, bb, R1, F1, e1, X, ht, hff⟩ := A113 d hN R0 I0.1 hb _ _ oa at_.1
    rw [ea, at_.2.1] at ht hff
    obtain ⟨lv2, hl2, q17, q18, hg2⟩ := z125_3 d hN R0.1 hBe hBl hNg hNl hS hSl i k j l p (stC D k) (44 + (stC D2 l : Int)) (by omega) (by omega) pr hB I0.1.2.1 (by rw [A1.2.2]; exact hf.1) q hq (by omega) (lC (shC D2) l).2.length (by omega) (by omega) (by omega) (by rw [b8l, b8s]; omega) (by omega) (by rw [at_.2.2]; exact hq9) b4 b5 (by omega) (by omega) lv1 hl1 q8 q9 q10 bb X
    have I1 := I0.mv (e1 45 (by decide)) (e1 41 (by decide)) (e1 28 (by decide)) (e1 39 (by decide))
    have FQ1 := FQ0.tr (F1.sub kUQ)
    have eQ1 : ∀ j, ¬ j ∈ ksQ → x1 j = x j := fun j hj => (e1 j (fun z => hj (kUQ j z))).trans (eQ0 j hj)
    cases bb with
    | false => exact ⟨-6, w1, m, x1, [], R1, FQ1, eQ1, I1, mFr9.rf m, Or.inr (Or.inl ⟨hf, hff rfl, rfl⟩), fun z => absurd z (by decide), MD.fin h R1 FQ1 (hg _ (hg1 _ (hg2 _ (e125_f d lv2 hl2.1))))⟩
    | true =>
      obtain ⟨ρ, hρ, hM⟩ := ht rfl
      have hV := v125_3 d hN R1 I1 (h1'.mv (e1 30 (by decide)) (e1 29 (by decide)) (e1 33 (by decide)) (e1 28 (by decide))) (h2'.mv (e1 30 (by decide)) (e1 29 (by decide)) (e1 33 (by decide)) (e1 28 (by decide))) (by rw [e1 45 (by decide)]; exact L1) (by rw [e1 45 (by decide)]; exact L2) (ρ := ρ) (by rw [e1 45 (by decide)]; exact hρ) k l hk lb p lv2 hl2 _ q hq1 (by rw [e1 45 (by decide)]; exact ob) q17 q18
      rw [e1 45 (by decide), eb] at hV
      obtain ⟨rr, w', m', x', C', c1_, c2, c3, c4, c5, c6, c7, c8⟩ := hV
      have FQ2 := FQ1.tr (c2.sub kMQ)
      exact ⟨rr, w', m', x', C', c1_, FQ2, fun j hj => (c3 j (fun z => hj (kMQ j z))).trans (eQ1 j hj), c4, c5, Or.inr (Or.inr ⟨hf, _, hM, c6⟩), c7, MD.fin h c1_ FQ2 (hg _ (hg1 _ (hg2 _ c8)))⟩
  · have hn := n125_3 d hN R0.1 hBe hBl hNg hNl hS hSl i k j l p (stC D k) (stC D2 l) (lC D k).1 (lC D2 l).1 a4 a5 (by omega) (by omega) (a8 k (by omega)) (by omega) (by omega) (a9 k hk).1 (a9 k hk).2 b4 b5 (by omega) (by omega) (b8 l (by omega)) (by omega) (by omega) (b9 l lb).1 (b9 l lb).2 (I0.1.2.1 _) (fun z => hf ⟨by rw [← A1.2.2]; exact z.1, z.2⟩) lv hl l7 (by omega) (by omega)
    exact ⟨-5, w0, m, x0, [], R0, FQ0, eQ0, I0, mFr9.rf m, Or.inl ⟨hf, rfl⟩, fun z => absurd z (by decide), MD.fin h R0 FQ0 (hg _ hn)⟩
end MZ
