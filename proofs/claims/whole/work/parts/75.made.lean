/-! the reference: made, to its end -/

theorem uqs_len : ∀ (t q : List (Int × List Int)), (uqs q t).length ≤ q.length + t.length
  | [], q => by simp [uqs]
  | y :: t, q => by
    unfold uqs
    split
    · have := uqs_len t q
      simp only [List.length_cons]
      omega
    · have := uqs_len t (q ++ [y])
      simp only [List.length_append, List.length_cons, List.length_nil] at this ⊢
      omega
theorem mk1_le {t C : List (Int × List Int)} (h : mk1 (some []) t = some C) : C.length ≤ t.length := by
  rw [mk1_all] at h
  split at h
  · cases h
    have := uqs_len t []
    simp only [List.length_nil] at this
    omega
  · cases h
theorem oth_len : ∀ (D : List (Int × List Int)) (b k : Int), (oth b k D).length ≤ D.length
  | [], _, _ => Nat.le_refl _
  | y :: t, b, k => by
    unfold oth
    have := oth_len t b (k + 1)
    split
    · simp only [List.length_cons]
      omega
    · simp only [List.length_cons]
      omega
theorem rew_len : ∀ (D : List (Int × List Int)) (l : Int) (y : List Int) (k : Int), (rew l y k D).length = D.length
  | [], _, _, _ => rfl
  | z :: t, l, y, k => by
    unfold rew
    rw [List.length_cons, List.length_cons, rew_len t l y (k + 1)]
theorem seg_seg {S u : List Int} {a : Int} (h0 : 0 ≤ a) (hs : seg S a (a + u.length) = u) {i j : Nat} (hij : i ≤ j) (hj : j ≤ u.length) : seg S (a + i) (a + j) = (u.drop i).take (j - i) := by
  have e : (S.drop a.toNat).take u.length = u := by
    unfold seg at hs
    rw [show (a + (u.length : Int)).toNat - a.toNat = u.length by omega] at hs
    exact hs
  have e2 : (u.drop i).take (j - i) = (((S.drop a.toNat).take u.length).drop i).take (j - i) := by rw [e]
  rw [e2]
  unfold seg
  rw [show (a + (i : Int)).toNat = a.toNat + i by omega, show (a + (j : Int)).toNat - (a.toNat + i) = j - i by omega, ← List.drop_drop, List.drop_take, List.take_take, Nat.min_eq_left (by omega)]
theorem two_99 {A : List Int} (h : Ts 1 A) (h9 : A.getD 0 0 = 99) : 1 < A.length ∧ 1 + (tm A 1).length < A.length := by
  cases A with
  | nil => cases h
  | cons s u =>
    have hs : s = 99 := h9
    subst hs
    obtain ⟨n, hn, hT⟩ := Ts_cons h
    have hn0 : n = 0 := by omega
    subst hn0
    have e2 : 0 + ar 99 = 1 + 1 := rfl
    rw [e2] at hT
    obtain ⟨a, b, e, ha, hb⟩ := Ts_split hT
    have e3 : tm (99 :: u) 1 = a := by
      show tk 1 u = a
      rw [e]
      exact tk_app ha
    have l1 := Ts_len ha
    have l2 := Ts_len hb
    rw [e3, e]
    simp only [List.length_cons, List.length_append]
    omega
theorem LD.at0 {fr : Int} {D : List (Int × List Int)} {S : List Int} (h : LD fr D S) (hS : S.length = 160) (hf : fr + (flt D).length ≤ 88) {k : Nat} (hk : k < D.length) (hT : Ts 1 (lC D k).2) : okp S (fr + stC D k) ∧ tm S (fr + stC D k).toNat = (lC D k).2 ∧ gZ S (fr + stC D k) = (lC D k).2.getD 0 0 := by
  have a := h.at hS hf hk hT (i := 0) (List.length_pos_iff.mpr (Ts_ne (n := 0) hT))
  rw [show fr + (stC D k : Int) + ((0 : Nat) : Int) = fr + stC D k by omega, tm_at0 hT] at a
  exact a
theorem LD.eqs {D : List (Int × List Int)} {S : List Int} (h : LD 0 D S) (hS : S.length = 160) (hf : (flt D).length ≤ 40) {k : Nat} (hk : k < D.length) (hT : Ts 1 (lC D k).2) (h9 : (lC D k).2.getD 0 0 = 99) : okp S ((stC D k : Int) + 1) ∧ tm S ((stC D k : Int) + 1).toNat = tm (lC D k).2 1 ∧ okp S ((stC D k : Int) + 1 + (tm (lC D k).2 1).length) ∧ tm S ((stC D k : Int) + 1 + (tm (lC D k).2 1).length).toNat = tm (lC D k).2 (1 + (tm (lC D k).2 1).length) := by
  obtain ⟨t1, t2⟩ := two_99 hT h9
  have a := h.at hS (by omega) hk hT t1
  have b := h.at hS (by omega) hk hT t2
  rw [show (0 : Int) + (stC D k : Int) + ((1 : Nat) : Int) = (stC D k : Int) + 1 by omega] at a
  rw [show (0 : Int) + (stC D k : Int) + ((1 + (tm (lC D k).2 1).length : Nat) : Int) = (stC D k : Int) + 1 + (tm (lC D k).2 1).length by omega] at b
  exact ⟨a.1, a.2.1, b.1, b.2.1⟩
def f3 (A : List Int) (p : Int) : List Int := if 100 ≤ p then tm A (1 + (tm A 1).length) else tm A 1
def g3 (A : List Int) (p : Int) : List Int := if 100 ≤ p then tm A 1 else tm A (1 + (tm A 1).length)
def rw3 (B G : List Int) (q : Nat) : List Int := B.take (1 + q) ++ (G ++ B.drop (1 + q + (tm B (1 + q)).length))
theorem LD_rw3 {D : List (Int × List Int)} {S G : List Int} (h : LD 44 D S) (hS : S.length = 160) (hf : (44 : Int) + (flt D).length ≤ 88) {l : Nat} (hl : l < D.length) (hT : Ts 1 (lC D l).2) {q : Nat} (hq : 1 + q < (lC D l).2.length) :
    seg S (44 + stC D l) (44 + stC D l + 1 + q) ++ (G ++ seg S (44 + stC D l + 1 + q + (tm S (44 + stC D l + 1 + (q : Int)).toNat).length) (44 + stC D (l + 1))) = rw3 (lC D l).2 G q := by
  have hs := h.seg hS hl
  have e := stC_succ hl
  rw [e, show (44 : Int) + ((stC D l + (lC D l).2.length : Nat) : Int) = 44 + (stC D l : Int) + ((lC D l).2.length : Int) by omega] at hs
  have a := h.at hS hf hl hT hq
  rw [show (44 : Int) + (stC D l : Int) + ((1 + q : Nat) : Int) = 44 + stC D l + 1 + q by omega] at a
  have hfit := tm_fits hq
  have s1 := seg_seg (by omega) hs (i := 0) (j := 1 + q) (by omega) (by omega)
  rw [show (44 : Int) + (stC D l : Int) + ((0 : Nat) : Int) = 44 + stC D l by omega, show (44 : Int) + (stC D l : Int) + ((1 + q : Nat) : Int) = 44 + stC D l + 1 + q by omega, List.drop_zero, Nat.sub_zero] at s1
  have s2 := seg_seg (by omega) hs (i := 1 + q + (tm (lC D l).2 (1 + q)).length) (j := (lC D l).2.length) (by omega) (by omega)
  rw [List.take_of_length_le (by rw [List.length_drop]; omega)] at s2
  rw [a.2.1, s1, e, show (44 : Int) + (stC D l : Int) + 1 + (q : Int) + ((tm (lC D l).2 (1 + q)).length : Int) = 44 + (stC D l : Int) + ((1 + q + (tm (lC D l).2 (1 + q)).length : Nat) : Int) by omega, show (44 : Int) + ((stC D l + (lC D l).2.length : Nat) : Int) = 44 + (stC D l : Int) + ((lC D l).2.length : Int) by omega, s2]
  rfl
def xw (x : Nat → List Int) (R Sa Mi St En : List Int) : Nat → List Int := fun j => if j = 38 then R else if j = 39 then Sa else if j = 41 then Mi else if j = 49 then St else if j = 50 then En else x j
def ksQ : List Nat := [27, 38, 39, 40, 41, 45, 46, 47, 48, 49, 50]
theorem kWM : ∀ j, j ∈ ksW → j ∈ ksM := fun j hj => by
  unfold ksW at hj
  simp only [List.mem_cons, List.not_mem_nil, or_false] at hj
  rcases hj with rfl | rfl | rfl | rfl | rfl | rfl <;> decide
theorem kMQ : ∀ j, j ∈ ksM → j ∈ ksQ := fun j hj => by
  unfold ksM at hj
  simp only [List.mem_cons, List.not_mem_nil, or_false] at hj
  rcases hj with rfl | rfl | rfl | rfl | rfl | rfl | rfl <;> decide
theorem kUQ : ∀ j, j ∈ ([46, 47, 48, 49, 50] : List Nat) → j ∈ ksQ := fun j hj => by
  simp only [List.mem_cons, List.not_mem_nil, or_false] at hj
  rcases hj with rfl | rfl | rfl | rfl | rfl <;> decide
theorem kLQ : ∀ j, j ∈ ([45, 46] : List Nat) → j ∈ ksQ := fun j hj => by
  simp only [List.mem_cons, List.not_mem_nil, or_false] at hj
  rcases hj with rfl | rfl <;> decide
section MX
variable {w : Nat → xC} {N : Nat} {m : Nat → Int} {x : Nat → List Int} {D D2 : List (Int × List Int)} {c i j : Int} {ρ : Int → List Int}
theorem xw_ne {R Sa Mi St En : List Int} {j : Nat} (hj : ¬ j ∈ ksW) : xw x R Sa Mi St En j = x j := by
  unfold ksW at hj
  simp only [List.mem_cons, List.not_mem_nil, or_false, not_or] at hj
  unfold xw
  rw [if_neg hj.2.1, if_neg hj.2.2.1, if_neg hj.2.2.2.1, if_neg hj.2.2.2.2.1, if_neg hj.2.2.2.2.2]
theorem RO.xwK {w' : Nat → xC} {m' : Nat → Int} {R Sa Mi St En : List Int} (h : RO w m x) (f : Fr ksW w w') (k : WK w' m' R Sa Mi St En) : RO w' m' (xw x R Sa Mi St En) := by
  obtain ⟨j1, j2, j3, j4, j5, j6, j7, j8, j9, j10, j11, j12, j13⟩ := k
  refine RO.upd (ks := [38, 39, 41, 49, 50]) h f j1 (fun j hj => ?_) (fun j hj => ?_)
  · simp only [List.mem_cons, List.not_mem_nil, or_false] at hj
    rcases hj with rfl | rfl | rfl | rfl | rfl
    · exact ⟨j2, j3⟩
    · exact ⟨j4, j5⟩
    · exact ⟨j6, j7⟩
    · exact ⟨j8, j9⟩
    · exact ⟨j10, j11⟩
  · simp only [List.mem_cons, List.not_mem_nil, or_false, not_or] at hj
    unfold xw
    rw [if_neg hj.1, if_neg hj.2.1, if_neg hj.2.2.1, if_neg hj.2.2.2.1, if_neg hj.2.2.2.2]
theorem RO.fld (h : RO w m x) (m' : Nat → Int) : RO (uH w 27 (.inr (8, mF m'))) m' x := ⟨uH_at _ _ _, fun j j0 j1 => by
  rw [uH_ne (by omega)]
  exact h.2 j j0 j1⟩
theorem RC.sh {Ma Be Ng : List Int} (h : RC c D Ma Be Ng) : RC c (shC D) Ma Be Ng := by
  obtain ⟨a1, a2, a3, a4, a5, a6, a7, a8, a9⟩ := h
  refine ⟨a1, a2, a3, a4, a5, by rw [shC_len]; exact a6, by rw [shC_len]; exact a7, fun k hk => ?_, fun k hk => ?_⟩
  · rw [shC_len] at hk
    rw [stC_shC]
    exact a8 k hk
  · rw [shC_len] at hk
    unfold shC
    rw [lC_map hk]
    exact a9 k hk
theorem RD.mv {x' : Nat → List Int} (h : RD c D x) (e30 : x' 30 = x 30) (e29 : x' 29 = x 29) (e33 : x' 33 = x 33) (e28 : x' 28 = x 28) : RD c D x' := by
  unfold RD
  rw [e30, e29, e33, e28]
  exact h
theorem RI.mv {x' : Nat → List Int} (h : RI x) (e45 : x' 45 = x 45) (e41 : x' 41 = x 41) (e28 : x' 28 = x 28) (e39 : x' 39 = x 39) : RI x' := by
  unfold RI
  rw [e45, e41, e28, e39]
  exact h
theorem BtS_0 {R Sa Mi : List Int} (h0 : gZ Sa 0 = 0) : BtS (some []) (st_ (st_ (st_ m 7 0) 8 0) 10 0) R Sa Mi := by
  refine ⟨⟨fun j hj => absurd hj (Nat.not_lt_zero _), fun k hk => ?_, fun k hk => absurd hk (Nat.not_lt_zero _)⟩, ?_, ?_, ?_, fun x hx => ?_, Nat.le_refl _⟩
  · obtain rfl : k = 0 := Nat.le_zero.mp hk
    exact h0
  · rw [st_ne (by decide), st_at]
    rfl
  · rw [st_at]
  · rw [st_ne (by decide), st_ne (by decide), st_at]
    rfl
  · cases hx
theorem A113 (d : Nat) (hN : 53 ≤ N) (h : RO w m x) (hO : SOK (x 45)) (hBd : ∀ v, 0 ≤ v → v < 52 → gZ (x 46) v = -1) (a b : Int) (oa : okp (x 45) a) (ob : okp (x 45) b) :
    ∃ (w' : Nat → xC) (x' : Nat → List Int) (r : Bool), RO w' m x' ∧ Fr [46, 47, 48, 49, 50] w w' ∧ (∀ j, ¬ j ∈ ([46, 47, 48, 49, 50] : List Nat) → x' j = x j) ∧ Xc (d + 4) 113 [.ref 30, .int (iZ a), .int (iZ b)] (hp w N) (some (.int (iZ (bZ r))), hp w' N) ∧ (r = true → ∃ ρ', BdOK (x 45) (x' 46) ρ' ∧ Mg (sgm ρ') (tm (x 45) a.toNat) (tm (x 45) b.toNat)) ∧ (r = false → ∀ θ, Tσ θ → sub θ (tm (x 45) a.toNat) ≠ sub θ (tm (x 45) b.toNat)) := by
  have r_ : ∀ j, 28 ≤ j → j ≤ 51 → w j = cI (kdR j) (x j) ∧ (x j).length = lnR j := h.2
  obtain ⟨Bd', Lf', Rg', St', En', r, g1, g2, g3, g4, g5, g6, g7, g8⟩ := m113 d hN h.1 (r_ 45 (by decide) (by decide)).1 hO (r_ 46 (by decide) (by decide)).1 (r_ 46 (by decide) (by decide)).2 hBd (r_ 47 (by decide) (by decide)).1 (r_ 48 (by decide) (by decide)).1 (r_ 49 (by decide) (by decide)).1 (r_ 50 (by decide) (by decide)).1 (r_ 47 (by decide) (by decide)).2 (r_ 48 (by decide) (by decide)).2 (r_ 49 (by decide) (by decide)).2 (r_ 50 (by decide) (by decide)).2 a b oa ob
  have R1 := ((((h.set (j := 46) (l := Bd') (by decide) g1).set (j := 47) (l := Lf') (by decide) g2).set (j := 48) (l := Rg') (by decide) g3).set (j := 49) (l := St') (by decide) g4).set (j := 50) (l := En') (by decide) g5
  refine ⟨uH (uH (uH (uH (uH w 46 (cI 0 Bd')) 47 (cI 0 Lf')) 48 (cI 0 Rg')) 49 (cI 0 St')) 50 (cI 0 En'), ux (ux (ux (ux (ux x 46 Bd') 47 Lf') 48 Rg') 49 St') 50 En', r, R1, (((((Fr.rf _ _).up (by decide)).up (by decide)).up (by decide)).up (by decide)).up (by decide), fun j hj => ?_, g6, g7, g8⟩
  simp only [List.mem_cons, List.not_mem_nil, or_false, not_or] at hj
  rw [ux_ne hj.2.2.2.2, ux_ne hj.2.2.2.1, ux_ne hj.2.2.1, ux_ne hj.2.1, ux_ne hj.1]
theorem A117 (d : Nat) (hN : 53 ≤ N) (h : RO w m x) (hI : RI x) (hρ : BdOK (x 45) (x 46) ρ) (hC : RC c D (x 30) (x 29) (x 33)) {fr : Int} (hL : LD fr D (x 45)) (but : Int) (u0 : -2147483648 ≤ but) (u1 : but < 2147483648) (o : Option (List (Int × List Int))) (hB : BtS o m (x 38) (x 39) (x 41)) (hcn : ∀ C, o = some C → C.length + D.length < 13) :
    ∃ (w' : Nat → xC) (m' : Nat → Int) (x' : Nat → List Int), RO w' m' x' ∧ Fr ksW w w' ∧ (∀ j, ¬ j ∈ ksW → x' j = x j) ∧ RI x' ∧ mFr m m' ∧ BtS (mk1 o ((oth but 0 D).map (litS (sgm ρ)))) m' (x' 38) (x' 39) (x' 41) ∧ Xc (d + 4) 117 [.ref 30, .int (iZ c), .int (iZ fr), .int (iZ but)] (hp w N) (none, hp w' N) := by
  have r_ : ∀ j, 28 ≤ j → j ≤ 51 → w j = cI (kdR j) (x j) ∧ (x j).length = lnR j := h.2
  obtain ⟨w', m', R', Sa', Mi', St', En', g1, g2, g3, g4, g5⟩ := m117 d hN hI.1 hρ hC hL but u0 u1 w m (x 38) (x 39) (x 41) (x 49) (x 50) o (r_ 45 (by decide) (by decide)).1 (r_ 46 (by decide) (by decide)).1 (r_ 30 (by decide) (by decide)).1 (r_ 29 (by decide) (by decide)).1 (r_ 33 (by decide) (by decide)).1 (h.wk hI.2.1 hI.2.2.2) hB hcn
  have z := g2.2.2.2.2.2.2.2.2.2.2.2
  exact ⟨w', m', xw x R' Sa' Mi' St' En', h.xwK g1 g2, g1, fun j hj => xw_ne hj, ⟨hI.1, z.1, hI.2.2.1, z.2⟩, g3, g4, g5⟩
theorem A127 (d : Nat) (hN : 53 ≤ N) (h : RO w m x) (hI : RI x) (hρ : BdOK (x 45) (x 46) ρ) (hC : RC c D (x 30) (x 29) (x 33)) (hL : LD 44 D (x 45)) (l : Nat) (t by_ : Int) (tl : (44 : Int) + stC D l ≤ t) (th : t + (tm (x 45) t.toNat).length ≤ 44 + stC D (l + 1)) (tT : Ts 1 (tm (x 45) t.toNat)) (y0 : 0 ≤ by_) (yT : Ts 1 (tm (x 45) by_.toNat)) (y1 : by_ + (tm (x 45) by_.toNat).length ≤ 160) (hlD : l < D.length) (o : Option (List (Int × List Int))) (hB : BtS o m (x 38) (x 39) (x 41)) (hcn : ∀ C, o = some C → C.length + D.length < 13) :
    ∃ (w' : Nat → xC) (m' : Nat → Int) (x' : Nat → List Int), RO w' m' x' ∧ Fr ksW w w' ∧ (∀ j, ¬ j ∈ ksW → x' j = x j) ∧ RI x' ∧ mFr m m' ∧ BtS (mk1 o ((rew l (seg (x 45) (44 + stC D l) t ++ (tm (x 45) by_.toNat ++ seg (x 45) (t + (tm (x 45) t.toNat).length) (44 + stC D (l + 1)))) 0 D).map (litS (sgm ρ)))) m' (x' 38) (x' 39) (x' 41) ∧ Xc (d + 4) 127 [.ref 30, .int (iZ c), .int (iZ (l : Int)), .int (iZ t), .int (iZ by_)] (hp w N) (none, hp w' N) := by
  have r_ : ∀ j, 28 ≤ j → j ≤ 51 → w j = cI (kdR j) (x j) ∧ (x j).length = lnR j := h.2
  obtain ⟨w', m', R', Sa', Mi', St', En', g1, g2, g3, g4, g5⟩ := m127 d hN hI.1 hρ hC hL l t by_ tl th tT y0 yT y1 hlD w m (x 38) (x 39) (x 41) (x 49) (x 50) o (r_ 45 (by decide) (by decide)).1 (r_ 46 (by decide) (by decide)).1 (r_ 30 (by decide) (by decide)).1 (r_ 29 (by decide) (by decide)).1 (r_ 33 (by decide) (by decide)).1 (h.wk hI.2.1 hI.2.2.2) hB hcn
  have z := g2.2.2.2.2.2.2.2.2.2.2.2
  exact ⟨w', m', xw x R' Sa' Mi' St' En', h.xwK g1 g2, g1, fun j hj => xw_ne hj, ⟨hI.1, z.1, hI.2.2.1, z.2⟩, g3, g4, g5⟩
def VD (d N : Nat) (w : Nat → xC) (m : Nat → Int) (x : Nat → List Int) (L : List (Int × List Int)) (σ : Int → List Int) (pc : Nat) (lv : xL) (sk : List Value) : Prop := ∃ (rr : Int) (w' : Nat → xC) (m' : Nat → Int) (x' : Nat → List Int) (C' : List (Int × List Int)), RO w' m' x' ∧ Fr ksM w w' ∧ (∀ j, ¬ j ∈ ksM → x' j = x j) ∧ RI x' ∧ mFr9 m m' ∧ ((mdC L σ = none ∧ rr = -7) ∨ (mdC L σ = some C' ∧ rr = 0)) ∧ (rr = 0 → RW C' (x' 38) (x' 39) (x' 41) ∧ m' 8 = C'.length ∧ m' 7 = (flt C').length) ∧ Gx q_k125 d pc (lv, sk, hp w N) (some (.int (iZ rr)), hp w' N)
theorem VD.back {d : Nat} {w1 : Nat → xC} {m1 : Nat → Int} {x1 : Nat → List Int} {L : List (Int × List Int)} {σ : Int → List Int} {pc pc1 : Nat} {lv lv1 : xL} {sk sk1 : List Value} (h : VD d N w1 m1 x1 L σ pc1 lv1 sk1) (f : Fr ksM w w1) (e : ∀ j, ¬ j ∈ ksM → x1 j = x j) (g : mFr9 m m1) (k : ∀ res, Gx q_k125 d pc1 (lv1, sk1, hp w1 N) res → Gx q_k125 d pc (lv, sk, hp w N) res) : VD d N w m x L σ pc lv sk := by
  obtain ⟨rr, w', m', x', C', a1, a2, a3, a4, a5, a6, a7, a8⟩ := h
  exact ⟨rr, w', m', x', C', a1, f.tr a2, fun j hj => (a3 j hj).trans (e j hj), a4, fun i i7 i8 i9 i10 => (a5 i i7 i8 i9 i10).trans (g i i7 i8 i9 i10), a6, a7, k _ a8⟩
theorem k125 (d : Nat) (hN : 53 ≤ N) (h : RO w m x) (hI : RI x) (L : List (Int × List Int)) (σ : Int → List Int) (hB : BtS (mk1 (some []) (L.map (litS σ))) m (x 38) (x 39) (x 41)) (hC : L.length ≤ 12) (lv : xL) (hc : c1 lv) (l0 : x_lk lv 0 = some (.ref 30)) : VD (d + 1) N w m x L σ 474 lv [] := by
  have r_ : ∀ j, 28 ≤ j → j ≤ 51 → w j = cI (kdR j) (x j) ∧ (x j).length = lnR j := h.2
  obtain ⟨r, w', m', R', Mp', f1, k1, k2, k3, k4, k5, k6⟩ := g125_474 d hN (h.wk hI.2.1 hI.2.2.2) (r_ 40 (by decide) (by decide)).1 (r_ 40 (by decide) (by decide)).2 _ hB (fun C e => by
    have := mk1_le e
    rw [List.length_map] at this
    omega) lv hc l0
  obtain ⟨j1, j2, j3, j4, j5, j6, j7, j8, j9, j10, j11, j12, j13⟩ := k1
  have R1 : RO w' m' (ux (ux x 38 R') 40 Mp') := by
    refine RO.upd (ks := [38, 39, 40, 41, 49, 50]) h f1 j1 (fun j hj => ?_) (fun j hj => ?_)
    · simp only [List.mem_cons, List.not_mem_nil, or_false] at hj
      rcases hj with rfl | rfl | rfl | rfl | rfl | rfl
      · exact ⟨j2, j3⟩
      · exact ⟨j4, j5⟩
      · exact ⟨k2, k3⟩
      · exact ⟨j6, j7⟩
      · exact ⟨j8, j9⟩
      · exact ⟨j10, j11⟩
    · simp only [List.mem_cons, List.not_mem_nil, or_false, not_or] at hj
      rw [ux_ne hj.2.2.1, ux_ne hj.1]
  have e1 : ∀ j, ¬ j ∈ ksM → ux (ux x 38 R') 40 Mp' j = x j := fun j hj => by
    unfold ksM at hj
    simp only [List.mem_cons, List.not_mem_nil, or_false, not_or] at hj
    rw [ux_ne hj.2.2.2.1, ux_ne hj.2.1]
  have I1 : RI (ux (ux x 38 R') 40 Mp') := ⟨hI.1, hI.2⟩
  rcases k6 with ⟨rfl, k6⟩ | ⟨rfl, C, k6, k7, k8, k9, k10⟩
  · refine ⟨-7, w', m', _, [], R1, f1, e1, I1, k4, Or.inl ⟨?_, rfl⟩, fun z => absurd z (by decide), k5⟩
    unfold mdC
    cases e : mk1 (some []) (L.map (litS σ)) with
    | none => rfl
    | some C =>
      dsimp only
      rw [if_neg (k6 C e)]
  · refine ⟨0, w', m', _, rnD C, R1, f1, e1, I1, k4, Or.inr ⟨?_, rfl⟩, fun _ => ⟨k8, ?_, ?_⟩, k5⟩
    · unfold mdC
      rw [k6]
      dsimp only
      rw [if_pos k7]
    · rw [k9]
      unfold rnD
      rw [List.length_map]
    · rw [k10]
      unfold rnD
      rw [flt_ren, ren_len]
theorem e125_f (d : Nat) (lv : xL) (hc : c1 lv) : Gx q_k125 (d + 4) 401 (lv, [.int (iZ (bZ false))], hp w N) (some (.int (iZ (-6))), hp w N) := by
  refine Gx.fin 20 Cs.tt (fun C _ => ?_)
  simp (disch := first | (refine c1_id ?_; assumption) | (refine c1_st rfl ?_; repeat (first | assumption | refine c1_st rfl ?_)) | omega) [nx_l, nx_r, nx_n, x_st, x_push, x_bin, x_div, x_un, x_dup, x_pop, x_dup2, x_goto, x_ifeq, x_ifne, x_iflt, x_ifge, x_ifgt, x_ifle, x_iceq, x_icne, x_iclt, x_icge, x_icgt, x_icle, x_ifnull, x_ifnonnull, x_ldi, x_lda, x_sti, x_sta, x_iinc, x_gf, x_pf, x_ald, x_ast, x_aln, x_len, x_cl_, x_cv, x_cs, x_rc, x_r0, x_isT, x_oi, x_rv, x_ri, x_ra, Value.category, t125_0, t125_1, t125_3, t125_5, t125_7, t125_10, t125_11, t125_14, t125_16, t125_17, t125_18, t125_21, t125_24, t125_25, t125_26, t125_27, t125_28, t125_31, t125_32, t125_35, t125_36, t125_37, t125_40, t125_41, t125_44, t125_45, t125_47, t125_49, t125_52, t125_53, t125_55, t125_57, t125_59, t125_62, t125_63, t125_66, t125_68, t125_69, t125_70, t125_71, t125_72, t125_73, t125_75, t125_77, t125_80, t125_82, t125_85, t125_86, t125_88, t125_89, t125_90, t125_93, t125_95, t125_98, t125_100, t125_103, t125_105, t125_108, t125_109, t125_110, t125_113, t125_115, t125_117, t125_118, t125_120, t125_121, t125_122, t125_123, t125_125, t125_126, t125_129, t125_131, t125_132, t125_133, t125_134, t125_135, t125_136, t125_138, t125_139, t125_140, t125_143, t125_144, t125_147, t125_149, t125_151, t125_152, t125_154, t125_155, t125_156, t125_159, t125_160, t125_163, t125_164, t125_166, t125_167, t125_170, t125_172, t125_174, t125_177, t125_178, t125_181, t125_182, t125_185, t125_186, t125_187, t125_190, t125_191, t125_193, t125_196, t125_198, t125_200, t125_203, t125_204, t125_207, t125_208, t125_211, t125_212, t125_215, t125_217, t125_218, t125_220, t125_223, t125_225, t125_226, t125_227, t125_230, t125_231, t125_234, t125_235, t125_238, t125_239, t125_242, t125_243, t125_245, t125_247, t125_250, t125_252, t125_253, t125_255, t125_256, t125_257, t125_259, t125_260, t125_263, t125_265, t125_266, t125_268, t125_271, t125_272, t125_274, t125_277, t125_280, t125_282, t125_284, t125_286, t125_288, t125_291, t125_293, t125_296, t125_298, t125_300, t125_302, t125_304, t125_307, t125_309, t125_312, t125_314, t125_316, t125_317, t125_318, t125_321, t125_322, t125_324, t125_326, t125_327, t125_329, t125_331, t125_334, t125_335, t125_337, t125_339, t125_342, t125_344, t125_346, t125_347, t125_350, t125_352, t125_355, t125_358, t125_359, t125_361, t125_362, t125_363, t125_366, t125_367, t125_369, t125_371, t125_374, t125_377, t125_378, t125_379, t125_382, t125_383, t125_385, t125_387, t125_390, t125_393, t125_394, t125_396, t125_398, t125_401, t125_403, t125_405, t125_408, t125_410, t125_411, t125_412, t125_413, t125_416, t125_417, t125_418, t125_421, t125_422, t125_423, t125_426, t125_427, t125_428, t125_429, t125_430, t125_431, t125_434, t125_436, t125_439, t125_440, t125_443, t125_444, t125_447, t125_448, t125_450, t125_452, t125_454, t125_457, t125_458, t125_459, t125_462, t125_463, t125_465, t125_467, t125_469, t125_471, t125_474, t125_475, t125_478, t125_481, t125_482, t125_485, t125_487, t125_490, t125_491, t125_494, t125_496, t125_499, t125_501, t125_502, t125_503, t125_506, t125_507, t125_510, t125_512, t125_515, t125_517, t125_520, t125_521, lk_s, hp_get, hp_set, uH_at, uH_ne, uH_upd, uH_swap, iZ_add, iZ_sub, iZ_mul, iZ_neg, iZ_lt, iZ_le, iZ_eq, iZ_div, iZ_of, ix_Z, gZ_map, gZ_mapI, gZ_map', le_0, le_s, sZ_map, sZ_len, bZ_0, bZ_inj, bZ_t, bZ_f, nr_i, nr_0, nr_1, nr_b, ft_i, ft_b, ft_0, ft_1, zl_0, zl_1, zl_2, zl_3, zl_5, zl_6, zl_7, zl_26, zl_40, zl_44, zl_52, zl_99, zl_100, mF_len, mg_0, mg_1, mg_2, mg_3, mg_4, mg_5, mg_6, mg_7, mg_8, mg_9, mg_10, mg_11, mg_12, mg_13, mg_14, mg_15, mg_16, mg_17, mg_18, mg_19, mg_20, mg_21, mg_22, mg_23, mg_24, mg_25, mg_26, mg_27, mg_28, mg_29, mg_30, mg_31, mg_32, mg_33, mg_34, mg_35, mg_36, mg_37, mg_38, ms_0, ms_1, ms_2, ms_13, ms_14, ms_15, ms_16, ms_21, ms_22, ms_23, ms_24, ms_28, ms_36, ms_37, ms_38, st_at, st_ne, st_st, st_swap, -List.filter_filter, -List.getElem?_map, -List.getD_eq_getElem?_getD]
theorem e125_t (d : Nat) (hN : 53 ≤ N) (hm : w 27 = .inr (8, mF m)) (lv : xL) (hc : c1 lv) (l0 : x_lk lv 0 = some (.ref 30)) : ∀ res, Gx q_k125 (d + 4) 426 ((19, .int (iZ 1)) :: lv.filter (x_keep 19), [], hp (uH w 27 (.inr (8, mF (st_ (st_ (st_ m 7 0) 8 0) 10 0)))) N) res → Gx q_k125 (d + 4) 401 (lv, [.int (iZ (bZ true))], hp w N) res := fun res hg => by
  refine Gx.run 60 Cs.tt (fun C _ => ?_) hg
  simp (disch := first | (refine c1_id ?_; assumption) | (refine c1_st rfl ?_; repeat (first | assumption | refine c1_st rfl ?_)) | omega) [nx_l, nx_r, nx_n, x_st, x_push, x_bin, x_div, x_un, x_dup, x_pop, x_dup2, x_goto, x_ifeq, x_ifne, x_iflt, x_ifge, x_ifgt, x_ifle, x_iceq, x_icne, x_iclt, x_icge, x_icgt, x_icle, x_ifnull, x_ifnonnull, x_ldi, x_lda, x_sti, x_sta, x_iinc, x_gf, x_pf, x_ald, x_ast, x_aln, x_len, x_cl_, x_cv, x_cs, x_rc, x_r0, x_isT, x_oi, x_rv, x_ri, x_ra, Value.category, t125_0, t125_1, t125_3, t125_5, t125_7, t125_10, t125_11, t125_14, t125_16, t125_17, t125_18, t125_21, t125_24, t125_25, t125_26, t125_27, t125_28, t125_31, t125_32, t125_35, t125_36, t125_37, t125_40, t125_41, t125_44, t125_45, t125_47, t125_49, t125_52, t125_53, t125_55, t125_57, t125_59, t125_62, t125_63, t125_66, t125_68, t125_69, t125_70, t125_71, t125_72, t125_73, t125_75, t125_77, t125_80, t125_82, t125_85, t125_86, t125_88, t125_89, t125_90, t125_93, t125_95, t125_98, t125_100, t125_103, t125_105, t125_108, t125_109, t125_110, t125_113, t125_115, t125_117, t125_118, t125_120, t125_121, t125_122, t125_123, t125_125, t125_126, t125_129, t125_131, t125_132, t125_133, t125_134, t125_135, t125_136, t125_138, t125_139, t125_140, t125_143, t125_144, t125_147, t125_149, t125_151, t125_152, t125_154, t125_155, t125_156, t125_159, t125_160, t125_163, t125_164, t125_166, t125_167, t125_170, t125_172, t125_174, t125_177, t125_178, t125_181, t125_182, t125_185, t125_186, t125_187, t125_190, t125_191, t125_193, t125_196, t125_198, t125_200, t125_203, t125_204, t125_207, t125_208, t125_211, t125_212, t125_215, t125_217, t125_218, t125_220, t125_223, t125_225, t125_226, t125_227, t125_230, t125_231, t125_234, t125_235, t125_238, t125_239, t125_242, t125_243, t125_245, t125_247, t125_250, t125_252, t125_253, t125_255, t125_256, t125_257, t125_259, t125_260, t125_263, t125_265, t125_266, t125_268, t125_271, t125_272, t125_274, t125_277, t125_280, t125_282, t125_284, t125_286, t125_288, t125_291, t125_293, t125_296, t125_298, t125_300, t125_302, t125_304, t125_307, t125_309, t125_312, t125_314, t125_316, t125_317, t125_318, t125_321, t125_322, t125_324, t125_326, t125_327, t125_329, t125_331, t125_334, t125_335, t125_337, t125_339, t125_342, t125_344, t125_346, t125_347, t125_350, t125_352, t125_355, t125_358, t125_359, t125_361, t125_362, t125_363, t125_366, t125_367, t125_369, t125_371, t125_374, t125_377, t125_378, t125_379, t125_382, t125_383, t125_385, t125_387, t125_390, t125_393, t125_394, t125_396, t125_398, t125_401, t125_403, t125_405, t125_408, t125_410, t125_411, t125_412, t125_413, t125_416, t125_417, t125_418, t125_421, t125_422, t125_423, t125_426, t125_427, t125_428, t125_429, t125_430, t125_431, t125_434, t125_436, t125_439, t125_440, t125_443, t125_444, t125_447, t125_448, t125_450, t125_452, t125_454, t125_457, t125_458, t125_459, t125_462, t125_463, t125_465, t125_467, t125_469, t125_471, t125_474, t125_475, t125_478, t125_481, t125_482, t125_485, t125_487, t125_490, t125_491, t125_494, t125_496, t125_499, t125_501, t125_502, t125_503, t125_506, t125_507, t125_510, t125_512, t125_515, t125_517, t125_520, t125_521, lk_s, hp_get, hp_set, uH_at, uH_ne, uH_upd, uH_swap, iZ_add, iZ_sub, iZ_mul, iZ_neg, iZ_lt, iZ_le, iZ_eq, iZ_div, iZ_of, ix_Z, gZ_map, gZ_mapI, gZ_map', le_0, le_s, sZ_map, sZ_len, bZ_0, bZ_inj, bZ_t, bZ_f, nr_i, nr_0, nr_1, nr_b, ft_i, ft_b, ft_0, ft_1, zl_0, zl_1, zl_2, zl_3, zl_5, zl_6, zl_7, zl_26, zl_40, zl_44, zl_52, zl_99, zl_100, mF_len, mg_0, mg_1, mg_2, mg_3, mg_4, mg_5, mg_6, mg_7, mg_8, mg_9, mg_10, mg_11, mg_12, mg_13, mg_14, mg_15, mg_16, mg_17, mg_18, mg_19, mg_20, mg_21, mg_22, mg_23, mg_24, mg_25, mg_26, mg_27, mg_28, mg_29, mg_30, mg_31, mg_32, mg_33, mg_34, mg_35, mg_36, mg_37, mg_38, ms_0, ms_1, ms_2, ms_13, ms_14, ms_15, ms_16, ms_21, ms_22, ms_23, ms_24, ms_28, ms_36, ms_37, ms_38, st_at, st_ne, st_st, st_swap, l0, hm, -List.filter_filter, -List.getElem?_map, -List.getD_eq_getElem?_getD]
theorem E125_0 (d : Nat) {w1 w2 : Nat → xC} {m0 m1 : Nat → Int} (hN : 53 ≤ N) (hm : w 27 = .inr (8, mF m0)) (hm1 : w1 27 = .inr (8, mF m1)) (i k j l p : Int) (lv : xL) (hl : lv7 lv 0 i k j l p) (X1 : Xc (d + 4) 117 [.ref 30, .int (iZ i), .int (iZ 0), .int (iZ k)] (hp w N) (none, hp w1 N)) (X2 : Xc (d + 4) 117 [.ref 30, .int (iZ j), .int (iZ 44), .int (iZ l)] (hp w1 N) (none, hp w2 N)) : ∀ res, Gx q_k125 (d + 4) 474 (lv, [], hp w2 N) res → Gx q_k125 (d + 4) 426 (lv, [], hp w N) res := fun res hg => by
  obtain ⟨hc, p0, p1, p2, p3, p4, p5, p6⟩ := hl
  refine Gx.run 60 (X1.and X2) (fun C mm => ?_) hg
  obtain ⟨mm1, mm2⟩ := mm
  simp (disch := first | (refine c1_id ?_; assumption) | (refine c1_st rfl ?_; repeat (first | assumption | refine c1_st rfl ?_)) | omega) [nx_l, nx_r, nx_n, x_st, x_push, x_bin, x_div, x_un, x_dup, x_pop, x_dup2, x_goto, x_ifeq, x_ifne, x_iflt, x_ifge, x_ifgt, x_ifle, x_iceq, x_icne, x_iclt, x_icge, x_icgt, x_icle, x_ifnull, x_ifnonnull, x_ldi, x_lda, x_sti, x_sta, x_iinc, x_gf, x_pf, x_ald, x_ast, x_aln, x_len, x_cl_, x_cv, x_cs, x_rc, x_r0, x_isT, x_oi, x_rv, x_ri, x_ra, Value.category, t125_0, t125_1, t125_3, t125_5, t125_7, t125_10, t125_11, t125_14, t125_16, t125_17, t125_18, t125_21, t125_24, t125_25, t125_26, t125_27, t125_28, t125_31, t125_32, t125_35, t125_36, t125_37, t125_40, t125_41, t125_44, t125_45, t125_47, t125_49, t125_52, t125_53, t125_55, t125_57, t125_59, t125_62, t125_63, t125_66, t125_68, t125_69, t125_70, t125_71, t125_72, t125_73, t125_75, t125_77, t125_80, t125_82, t125_85, t125_86, t125_88, t125_89, t125_90, t125_93, t125_95, t125_98, t125_100, t125_103, t125_105, t125_108, t125_109, t125_110, t125_113, t125_115, t125_117, t125_118, t125_120, t125_121, t125_122, t125_123, t125_125, t125_126, t125_129, t125_131, t125_132, t125_133, t125_134, t125_135, t125_136, t125_138, t125_139, t125_140, t125_143, t125_144, t125_147, t125_149, t125_151, t125_152, t125_154, t125_155, t125_156, t125_159, t125_160, t125_163, t125_164, t125_166, t125_167, t125_170, t125_172, t125_174, t125_177, t125_178, t125_181, t125_182, t125_185, t125_186, t125_187, t125_190, t125_191, t125_193, t125_196, t125_198, t125_200, t125_203, t125_204, t125_207, t125_208, t125_211, t125_212, t125_215, t125_217, t125_218, t125_220, t125_223, t125_225, t125_226, t125_227, t125_230, t125_231, t125_234, t125_235, t125_238, t125_239, t125_242, t125_243, t125_245, t125_247, t125_250, t125_252, t125_253, t125_255, t125_256, t125_257, t125_259, t125_260, t125_263, t125_265, t125_266, t125_268, t125_271, t125_272, t125_274, t125_277, t125_280, t125_282, t125_284, t125_286, t125_288, t125_291, t125_293, t125_296, t125_298, t125_300, t125_302, t125_304, t125_307, t125_309, t125_312, t125_314, t125_316, t125_317, t125_318, t125_321, t125_322, t125_324, t125_326, t125_327, t125_329, t125_331, t125_334, t125_335, t125_337, t125_339, t125_342, t125_344, t125_346, t125_347, t125_350, t125_352, t125_355, t125_358, t125_359, t125_361, t125_362, t125_363, t125_366, t125_367, t125_369, t125_371, t125_374, t125_377, t125_378, t125_379, t125_382, t125_383, t125_385, t125_387, t125_390, t125_393, t125_394, t125_396, t125_398, t125_401, t125_403, t125_405, t125_408, t125_410, t125_411, t125_412, t125_413, t125_416, t125_417, t125_418, t125_421, t125_422, t125_423, t125_426, t125_427, t125_428, t125_429, t125_430, t125_431, t125_434, t125_436, t125_439, t125_440, t125_443, t125_444, t125_447, t125_448, t125_450, t125_452, t125_454, t125_457, t125_458, t125_459, t125_462, t125_463, t125_465, t125_467, t125_469, t125_471, t125_474, t125_475, t125_478, t125_481, t125_482, t125_485, t125_487, t125_490, t125_491, t125_494, t125_496, t125_499, t125_501, t125_502, t125_503, t125_506, t125_507, t125_510, t125_512, t125_515, t125_517, t125_520, t125_521, lk_s, hp_get, hp_set, uH_at, uH_ne, uH_upd, uH_swap, iZ_add, iZ_sub, iZ_mul, iZ_neg, iZ_lt, iZ_le, iZ_eq, iZ_div, iZ_of, ix_Z, gZ_map, gZ_mapI, gZ_map', le_0, le_s, sZ_map, sZ_len, bZ_0, bZ_inj, bZ_t, bZ_f, nr_i, nr_0, nr_1, nr_b, ft_i, ft_b, ft_0, ft_1, zl_0, zl_1, zl_2, zl_3, zl_5, zl_6, zl_7, zl_26, zl_40, zl_44, zl_52, zl_99, zl_100, mF_len, mg_0, mg_1, mg_2, mg_3, mg_4, mg_5, mg_6, mg_7, mg_8, mg_9, mg_10, mg_11, mg_12, mg_13, mg_14, mg_15, mg_16, mg_17, mg_18, mg_19, mg_20, mg_21, mg_22, mg_23, mg_24, mg_25, mg_26, mg_27, mg_28, mg_29, mg_30, mg_31, mg_32, mg_33, mg_34, mg_35, mg_36, mg_37, mg_38, ms_0, ms_1, ms_2, ms_13, ms_14, ms_15, ms_16, ms_21, ms_22, ms_23, ms_24, ms_28, ms_36, ms_37, ms_38, st_at, st_ne, st_st, st_swap, p0, p1, p2, p3, p4, p5, p6, hm, hm1, mm1, mm2, -List.filter_filter, -List.getElem?_map, -List.getD_eq_getElem?_getD]
theorem E125_1 (d : Nat) {w1 w2 : Nat → xC} {m0 m1 : Nat → Int} (hN : 53 ≤ N) (hm : w 27 = .inr (8, mF m0)) (hm1 : w1 27 = .inr (8, mF m1)) (i k j l p : Int) (lv : xL) (hl : lv7 lv 1 i k j l p) (X1 : Xc (d + 4) 117 [.ref 30, .int (iZ i), .int (iZ 0), .int (iZ l)] (hp w N) (none, hp w1 N))  : ∀ res, Gx q_k125 (d + 4) 474 (lv, [], hp w1 N) res → Gx q_k125 (d + 4) 426 (lv, [], hp w N) res := fun res hg => by
  obtain ⟨hc, p0, p1, p2, p3, p4, p5, p6⟩ := hl
  refine Gx.run 60 X1 (fun C mm => ?_) hg
  simp (disch := first | (refine c1_id ?_; assumption) | (refine c1_st rfl ?_; repeat (first | assumption | refine c1_st rfl ?_)) | omega) [nx_l, nx_r, nx_n, x_st, x_push, x_bin, x_div, x_un, x_dup, x_pop, x_dup2, x_goto, x_ifeq, x_ifne, x_iflt, x_ifge, x_ifgt, x_ifle, x_iceq, x_icne, x_iclt, x_icge, x_icgt, x_icle, x_ifnull, x_ifnonnull, x_ldi, x_lda, x_sti, x_sta, x_iinc, x_gf, x_pf, x_ald, x_ast, x_aln, x_len, x_cl_, x_cv, x_cs, x_rc, x_r0, x_isT, x_oi, x_rv, x_ri, x_ra, Value.category, t125_0, t125_1, t125_3, t125_5, t125_7, t125_10, t125_11, t125_14, t125_16, t125_17, t125_18, t125_21, t125_24, t125_25, t125_26, t125_27, t125_28, t125_31, t125_32, t125_35, t125_36, t125_37, t125_40, t125_41, t125_44, t125_45, t125_47, t125_49, t125_52, t125_53, t125_55, t125_57, t125_59, t125_62, t125_63, t125_66, t125_68, t125_69, t125_70, t125_71, t125_72, t125_73, t125_75, t125_77, t125_80, t125_82, t125_85, t125_86, t125_88, t125_89, t125_90, t125_93, t125_95, t125_98, t125_100, t125_103, t125_105, t125_108, t125_109, t125_110, t125_113, t125_115, t125_117, t125_118, t125_120, t125_121, t125_122, t125_123, t125_125, t125_126, t125_129, t125_131, t125_132, t125_133, t125_134, t125_135, t125_136, t125_138, t125_139, t125_140, t125_143, t125_144, t125_147, t125_149, t125_151, t125_152, t125_154, t125_155, t125_156, t125_159, t125_160, t125_163, t125_164, t125_166, t125_167, t125_170, t125_172, t125_174, t125_177, t125_178, t125_181, t125_182, t125_185, t125_186, t125_187, t125_190, t125_191, t125_193, t125_196, t125_198, t125_200, t125_203, t125_204, t125_207, t125_208, t125_211, t125_212, t125_215, t125_217, t125_218, t125_220, t125_223, t125_225, t125_226, t125_227, t125_230, t125_231, t125_234, t125_235, t125_238, t125_239, t125_242, t125_243, t125_245, t125_247, t125_250, t125_252, t125_253, t125_255, t125_256, t125_257, t125_259, t125_260, t125_263, t125_265, t125_266, t125_268, t125_271, t125_272, t125_274, t125_277, t125_280, t125_282, t125_284, t125_286, t125_288, t125_291, t125_293, t125_296, t125_298, t125_300, t125_302, t125_304, t125_307, t125_309, t125_312, t125_314, t125_316, t125_317, t125_318, t125_321, t125_322, t125_324, t125_326, t125_327, t125_329, t125_331, t125_334, t125_335, t125_337, t125_339, t125_342, t125_344, t125_346, t125_347, t125_350, t125_352, t125_355, t125_358, t125_359, t125_361, t125_362, t125_363, t125_366, t125_367, t125_369, t125_371, t125_374, t125_377, t125_378, t125_379, t125_382, t125_383, t125_385, t125_387, t125_390, t125_393, t125_394, t125_396, t125_398, t125_401, t125_403, t125_405, t125_408, t125_410, t125_411, t125_412, t125_413, t125_416, t125_417, t125_418, t125_421, t125_422, t125_423, t125_426, t125_427, t125_428, t125_429, t125_430, t125_431, t125_434, t125_436, t125_439, t125_440, t125_443, t125_444, t125_447, t125_448, t125_450, t125_452, t125_454, t125_457, t125_458, t125_459, t125_462, t125_463, t125_465, t125_467, t125_469, t125_471, t125_474, t125_475, t125_478, t125_481, t125_482, t125_485, t125_487, t125_490, t125_491, t125_494, t125_496, t125_499, t125_501, t125_502, t125_503, t125_506, t125_507, t125_510, t125_512, t125_515, t125_517, t125_520, t125_521, lk_s, hp_get, hp_set, uH_at, uH_ne, uH_upd, uH_swap, iZ_add, iZ_sub, iZ_mul, iZ_neg, iZ_lt, iZ_le, iZ_eq, iZ_div, iZ_of, ix_Z, gZ_map, gZ_mapI, gZ_map', le_0, le_s, sZ_map, sZ_len, bZ_0, bZ_inj, bZ_t, bZ_f, nr_i, nr_0, nr_1, nr_b, ft_i, ft_b, ft_0, ft_1, zl_0, zl_1, zl_2, zl_3, zl_5, zl_6, zl_7, zl_26, zl_40, zl_44, zl_52, zl_99, zl_100, mF_len, mg_0, mg_1, mg_2, mg_3, mg_4, mg_5, mg_6, mg_7, mg_8, mg_9, mg_10, mg_11, mg_12, mg_13, mg_14, mg_15, mg_16, mg_17, mg_18, mg_19, mg_20, mg_21, mg_22, mg_23, mg_24, mg_25, mg_26, mg_27, mg_28, mg_29, mg_30, mg_31, mg_32, mg_33, mg_34, mg_35, mg_36, mg_37, mg_38, ms_0, ms_1, ms_2, ms_13, ms_14, ms_15, ms_16, ms_21, ms_22, ms_23, ms_24, ms_28, ms_36, ms_37, ms_38, st_at, st_ne, st_st, st_swap, p0, p1, p2, p3, p4, p5, p6, hm, hm1, mm, -List.filter_filter, -List.getElem?_map, -List.getD_eq_getElem?_getD]
theorem E125_2 (d : Nat) {w1 w2 : Nat → xC} {m0 m1 : Nat → Int} (hN : 53 ≤ N) (hm : w 27 = .inr (8, mF m0)) (hm1 : w1 27 = .inr (8, mF m1)) (i k j l p : Int) (lv : xL) (hl : lv7 lv 2 i k j l p) (X1 : Xc (d + 4) 117 [.ref 30, .int (iZ i), .int (iZ 0), .int (iZ k)] (hp w N) (none, hp w1 N))  : ∀ res, Gx q_k125 (d + 4) 474 (lv, [], hp w1 N) res → Gx q_k125 (d + 4) 426 (lv, [], hp w N) res := fun res hg => by
  obtain ⟨hc, p0, p1, p2, p3, p4, p5, p6⟩ := hl
  refine Gx.run 60 X1 (fun C mm => ?_) hg
  simp (disch := first | (refine c1_id ?_; assumption) | (refine c1_st rfl ?_; repeat (first | assumption | refine c1_st rfl ?_)) | omega) [nx_l, nx_r, nx_n, x_st, x_push, x_bin, x_div, x_un, x_dup, x_pop, x_dup2, x_goto, x_ifeq, x_ifne, x_iflt, x_ifge, x_ifgt, x_ifle, x_iceq, x_icne, x_iclt, x_icge, x_icgt, x_icle, x_ifnull, x_ifnonnull, x_ldi, x_lda, x_sti, x_sta, x_iinc, x_gf, x_pf, x_ald, x_ast, x_aln, x_len, x_cl_, x_cv, x_cs, x_rc, x_r0, x_isT, x_oi, x_rv, x_ri, x_ra, Value.category, t125_0, t125_1, t125_3, t125_5, t125_7, t125_10, t125_11, t125_14, t125_16, t125_17, t125_18, t125_21, t125_24, t125_25, t125_26, t125_27, t125_28, t125_31, t125_32, t125_35, t125_36, t125_37, t125_40, t125_41, t125_44, t125_45, t125_47, t125_49, t125_52, t125_53, t125_55, t125_57, t125_59, t125_62, t125_63, t125_66, t125_68, t125_69, t125_70, t125_71, t125_72, t125_73, t125_75, t125_77, t125_80, t125_82, t125_85, t125_86, t125_88, t125_89, t125_90, t125_93, t125_95, t125_98, t125_100, t125_103, t125_105, t125_108, t125_109, t125_110, t125_113, t125_115, t125_117, t125_118, t125_120, t125_121, t125_122, t125_123, t125_125, t125_126, t125_129, t125_131, t125_132, t125_133, t125_134, t125_135, t125_136, t125_138, t125_139, t125_140, t125_143, t125_144, t125_147, t125_149, t125_151, t125_152, t125_154, t125_155, t125_156, t125_159, t125_160, t125_163, t125_164, t125_166, t125_167, t125_170, t125_172, t125_174, t125_177, t125_178, t125_181, t125_182, t125_185, t125_186, t125_187, t125_190, t125_191, t125_193, t125_196, t125_198, t125_200, t125_203, t125_204, t125_207, t125_208, t125_211, t125_212, t125_215, t125_217, t125_218, t125_220, t125_223, t125_225, t125_226, t125_227, t125_230, t125_231, t125_234, t125_235, t125_238, t125_239, t125_242, t125_243, t125_245, t125_247, t125_250, t125_252, t125_253, t125_255, t125_256, t125_257, t125_259, t125_260, t125_263, t125_265, t125_266, t125_268, t125_271, t125_272, t125_274, t125_277, t125_280, t125_282, t125_284, t125_286, t125_288, t125_291, t125_293, t125_296, t125_298, t125_300, t125_302, t125_304, t125_307, t125_309, t125_312, t125_314, t125_316, t125_317, t125_318, t125_321, t125_322, t125_324, t125_326, t125_327, t125_329, t125_331, t125_334, t125_335, t125_337, t125_339, t125_342, t125_344, t125_346, t125_347, t125_350, t125_352, t125_355, t125_358, t125_359, t125_361, t125_362, t125_363, t125_366, t125_367, t125_369, t125_371, t125_374, t125_377, t125_378, t125_379, t125_382, t125_383, t125_385, t125_387, t125_390, t125_393, t125_394, t125_396, t125_398, t125_401, t125_403, t125_405, t125_408, t125_410, t125_411, t125_412, t125_413, t125_416, t125_417, t125_418, t125_421, t125_422, t125_423, t125_426, t125_427, t125_428, t125_429, t125_430, t125_431, t125_434, t125_436, t125_439, t125_440, t125_443, t125_444, t125_447, t125_448, t125_450, t125_452, t125_454, t125_457, t125_458, t125_459, t125_462, t125_463, t125_465, t125_467, t125_469, t125_471, t125_474, t125_475, t125_478, t125_481, t125_482, t125_485, t125_487, t125_490, t125_491, t125_494, t125_496, t125_499, t125_501, t125_502, t125_503, t125_506, t125_507, t125_510, t125_512, t125_515, t125_517, t125_520, t125_521, lk_s, hp_get, hp_set, uH_at, uH_ne, uH_upd, uH_swap, iZ_add, iZ_sub, iZ_mul, iZ_neg, iZ_lt, iZ_le, iZ_eq, iZ_div, iZ_of, ix_Z, gZ_map, gZ_mapI, gZ_map', le_0, le_s, sZ_map, sZ_len, bZ_0, bZ_inj, bZ_t, bZ_f, nr_i, nr_0, nr_1, nr_b, ft_i, ft_b, ft_0, ft_1, zl_0, zl_1, zl_2, zl_3, zl_5, zl_6, zl_7, zl_26, zl_40, zl_44, zl_52, zl_99, zl_100, mF_len, mg_0, mg_1, mg_2, mg_3, mg_4, mg_5, mg_6, mg_7, mg_8, mg_9, mg_10, mg_11, mg_12, mg_13, mg_14, mg_15, mg_16, mg_17, mg_18, mg_19, mg_20, mg_21, mg_22, mg_23, mg_24, mg_25, mg_26, mg_27, mg_28, mg_29, mg_30, mg_31, mg_32, mg_33, mg_34, mg_35, mg_36, mg_37, mg_38, ms_0, ms_1, ms_2, ms_13, ms_14, ms_15, ms_16, ms_21, ms_22, ms_23, ms_24, ms_28, ms_36, ms_37, ms_38, st_at, st_ne, st_st, st_swap, p0, p1, p2, p3, p4, p5, p6, hm, hm1, mm, -List.filter_filter, -List.getElem?_map, -List.getD_eq_getElem?_getD]
theorem E125_3 (d : Nat) {w1 w2 : Nat → xC} {m0 m1 : Nat → Int} (hN : 53 ≤ N) (hm : w 27 = .inr (8, mF m0)) (hm1 : w1 27 = .inr (8, mF m1)) (i k j l p : Int) (t by_ : Int) (lv : xL) (hl : lv7 lv 3 i k j l p) (l17 : x_lk lv 17 = some (.int (iZ by_))) (l18 : x_lk lv 18 = some (.int (iZ t))) (X1 : Xc (d + 4) 117 [.ref 30, .int (iZ i), .int (iZ 0), .int (iZ k)] (hp w N) (none, hp w1 N)) (X2 : Xc (d + 4) 127 [.ref 30, .int (iZ j), .int (iZ l), .int (iZ t), .int (iZ by_)] (hp w1 N) (none, hp w2 N)) : ∀ res, Gx q_k125 (d + 4) 474 (lv, [], hp w2 N) res → Gx q_k125 (d + 4) 426 (lv, [], hp w N) res := fun res hg => by
  obtain ⟨hc, p0, p1, p2, p3, p4, p5, p6⟩ := hl
  refine Gx.run 60 (X1.and X2) (fun C mm => ?_) hg
  obtain ⟨mm1, mm2⟩ := mm
  simp (disch := first | (refine c1_id ?_; assumption) | (refine c1_st rfl ?_; repeat (first | assumption | refine c1_st rfl ?_)) | omega) [nx_l, nx_r, nx_n, x_st, x_push, x_bin, x_div, x_un, x_dup, x_pop, x_dup2, x_goto, x_ifeq, x_ifne, x_iflt, x_ifge, x_ifgt, x_ifle, x_iceq, x_icne, x_iclt, x_icge, x_icgt, x_icle, x_ifnull, x_ifnonnull, x_ldi, x_lda, x_sti, x_sta, x_iinc, x_gf, x_pf, x_ald, x_ast, x_aln, x_len, x_cl_, x_cv, x_cs, x_rc, x_r0, x_isT, x_oi, x_rv, x_ri, x_ra, Value.category, t125_0, t125_1, t125_3, t125_5, t125_7, t125_10, t125_11, t125_14, t125_16, t125_17, t125_18, t125_21, t125_24, t125_25, t125_26, t125_27, t125_28, t125_31, t125_32, t125_35, t125_36, t125_37, t125_40, t125_41, t125_44, t125_45, t125_47, t125_49, t125_52, t125_53, t125_55, t125_57, t125_59, t125_62, t125_63, t125_66, t125_68, t125_69, t125_70, t125_71, t125_72, t125_73, t125_75, t125_77, t125_80, t125_82, t125_85, t125_86, t125_88, t125_89, t125_90, t125_93, t125_95, t125_98, t125_100, t125_103, t125_105, t125_108, t125_109, t125_110, t125_113, t125_115, t125_117, t125_118, t125_120, t125_121, t125_122, t125_123, t125_125, t125_126, t125_129, t125_131, t125_132, t125_133, t125_134, t125_135, t125_136, t125_138, t125_139, t125_140, t125_143, t125_144, t125_147, t125_149, t125_151, t125_152, t125_154, t125_155, t125_156, t125_159, t125_160, t125_163, t125_164, t125_166, t125_167, t125_170, t125_172, t125_174, t125_177, t125_178, t125_181, t125_182, t125_185, t125_186, t125_187, t125_190, t125_191, t125_193, t125_196, t125_198, t125_200, t125_203, t125_204, t125_207, t125_208, t125_211, t125_212, t125_215, t125_217, t125_218, t125_220, t125_223, t125_225, t125_226, t125_227, t125_230, t125_231, t125_234, t125_235, t125_238, t125_239, t125_242, t125_243, t125_245, t125_247, t125_250, t125_252, t125_253, t125_255, t125_256, t125_257, t125_259, t125_260, t125_263, t125_265, t125_266, t125_268, t125_271, t125_272, t125_274, t125_277, t125_280, t125_282, t125_284, t125_286, t125_288, t125_291, t125_293, t125_296, t125_298, t125_300, t125_302, t125_304, t125_307, t125_309, t125_312, t125_314, t125_316, t125_317, t125_318, t125_321, t125_322, t125_324, t125_326, t125_327, t125_329, t125_331, t125_334, t125_335, t125_337, t125_339, t125_342, t125_344, t125_346, t125_347, t125_350, t125_352, t125_355, t125_358, t125_359, t125_361, t125_362, t125_363, t125_366, t125_367, t125_369, t125_371, t125_374, t125_377, t125_378, t125_379, t125_382, t125_383, t125_385, t125_387, t125_390, t125_393, t125_394, t125_396, t125_398, t125_401, t125_403, t125_405, t125_408, t125_410, t125_411, t125_412, t125_413, t125_416, t125_417, t125_418, t125_421, t125_422, t125_423, t125_426, t125_427, t125_428, t125_429, t125_430, t125_431, t125_434, t125_436, t125_439, t125_440, t125_443, t125_444, t125_447, t125_448, t125_450, t125_452, t125_454, t125_457, t125_458, t125_459, t125_462, t125_463, t125_465, t125_467, t125_469, t125_471, t125_474, t125_475, t125_478, t125_481, t125_482, t125_485, t125_487, t125_490, t125_491, t125_494, t125_496, t125_499, t125_501, t125_502, t125_503, t125_506, t125_507, t125_510, t125_512, t125_515, t125_517, t125_520, t125_521, lk_s, hp_get, hp_set, uH_at, uH_ne, uH_upd, uH_swap, iZ_add, iZ_sub, iZ_mul, iZ_neg, iZ_lt, iZ_le, iZ_eq, iZ_div, iZ_of, ix_Z, gZ_map, gZ_mapI, gZ_map', le_0, le_s, sZ_map, sZ_len, bZ_0, bZ_inj, bZ_t, bZ_f, nr_i, nr_0, nr_1, nr_b, ft_i, ft_b, ft_0, ft_1, zl_0, zl_1, zl_2, zl_3, zl_5, zl_6, zl_7, zl_26, zl_40, zl_44, zl_52, zl_99, zl_100, mF_len, mg_0, mg_1, mg_2, mg_3, mg_4, mg_5, mg_6, mg_7, mg_8, mg_9, mg_10, mg_11, mg_12, mg_13, mg_14, mg_15, mg_16, mg_17, mg_18, mg_19, mg_20, mg_21, mg_22, mg_23, mg_24, mg_25, mg_26, mg_27, mg_28, mg_29, mg_30, mg_31, mg_32, mg_33, mg_34, mg_35, mg_36, mg_37, mg_38, ms_0, ms_1, ms_2, ms_13, ms_14, ms_15, ms_16, ms_21, ms_22, ms_23, ms_24, ms_28, ms_36, ms_37, ms_38, st_at, st_ne, st_st, st_swap, p0, p1, p2, p3, p4, p5, p6, hm, hm1, l17, l18, mm1, mm2, -List.filter_filter, -List.getElem?_map, -List.getD_eq_getElem?_getD]
theorem v125_0 (d : Nat) (hN : 53 ≤ N) (h : RO w m x) (hI : RI x) (h1 : RD i D x) (h2 : RD j D2 x) (L1 : LD 0 D (x 45)) (L2 : LD 44 (shC D2) (x 45)) (hρ : BdOK (x 45) (x 46) ρ) (k l : Nat) (hk : k < D.length) (lb : l < D2.length) (p : Int) (lv : xL) (hl : lv7 lv 0 i k j l p) : VD (d + 4) N w m x (oth k 0 D ++ oth l 0 (shC D2)) (sgm ρ) 401 lv [.int (iZ (bZ true))] := by
  have g1 := h1.2.1.1
  have hL := hl.st (q := 19) (v := .int (iZ 1)) (by decide) rfl
  obtain ⟨w0, R0, F0, hg0⟩ : ∃ w0, RO w0 (st_ (st_ (st_ m 7 0) 8 0) 10 0) x ∧ Fr ksM w w0 ∧ ∀ res, Gx q_k125 (d + 4) 426 ((19, .int (iZ 1)) :: lv.filter (x_keep 19), [], hp w0 N) res → Gx q_k125 (d + 4) 401 (lv, [.int (iZ (bZ true))], hp w N) res := ⟨_, h.fld _, (Fr.rf _ _).up (by decide), e125_t d hN h.1 lv hl.1 hl.2.1⟩
  have M0 : mFr9 m (st_ (st_ (st_ m 7 0) 8 0) 10 0) := fun i i7 i8 _ i10 => by rw [st_ne i10, st_ne i8, st_ne i7]
  have B0 : BtS (some []) (st_ (st_ (st_ m 7 0) 8 0) 10 0) (x 38) (x 39) (x 41) := BtS_0 hI.2.2.2
  obtain ⟨w1, m1, x1, R1, F1, e1, I1, M1, B1, X1⟩ := A117 d hN R0 hI hρ h1.1 L1 k (by omega) (by omega) (some []) B0 (fun C e => by
    cases e
    show 0 + D.length < 13
    omega)
  have ol := oth_len D k 0
  have g2 := h2.2.1.1
  have hsl := shC_len D2
  have hcn : ∀ C, mk1 (some []) ((oth k 0 D).map (litS (sgm ρ))) = some C → C.length + (shC D2).length < 13 := fun C e => by
    have := mk1_le e
    rw [List.length_map] at this
    omega
  obtain ⟨w2, m2, x2, R2, F2, e2, I2, M2, B2, X2⟩ := A117 (D := shC D2) (fr := 44) (c := j) (ρ := ρ) d hN R1 I1 (by rw [e1 45 (by decide), e1 46 (by decide)]; exact hρ) (by rw [e1 30 (by decide), e1 29 (by decide), e1 33 (by decide)]; exact h2.1.sh) (by rw [e1 45 (by decide)]; exact L2) l (by omega) (by omega) _ B1 hcn
  have ol2 := oth_len (shC D2) l 0
  rw [← mk1_app, ← List.map_append] at B2
  refine (k125 (d + 3) hN R2 I2 _ (sgm ρ) B2 (by rw [List.length_append]; omega) _ hL.1 hL.2.1).back ((F0.tr (F1.sub kWM)).tr (F2.sub kWM)) (fun j hj => (e2 j (fun z => hj (kWM j z))).trans (e1 j (fun z => hj (kWM j z)))) (fun i i7 i8 i9 i10 => (M2 i i7 i8 i10).trans ((M1 i i7 i8 i10).trans (M0 i i7 i8 i9 i10))) (fun res hg => hg0 res (E125_0 d hN R0.1 R1.1 i k j l p _ hL X1 X2 res hg))
theorem v125_1 (d : Nat) (hN : 53 ≤ N) (h : RO w m x) (hI : RI x) (h1 : RD i D x) (L1 : LD 0 D (x 45)) (hρ : BdOK (x 45) (x 46) ρ) (k l : Nat) (hk : k < D.length) (lb : l < D.length) (p : Int) (lv : xL) (hl : lv7 lv 1 i k j l p) : VD (d + 4) N w m x (oth l 0 D) (sgm ρ) 401 lv [.int (iZ (bZ true))] := by
  have g1 := h1.2.1.1
  have hL := hl.st (q := 19) (v := .int (iZ 1)) (by decide) rfl
  obtain ⟨w0, R0, F0, hg0⟩ : ∃ w0, RO w0 (st_ (st_ (st_ m 7 0) 8 0) 10 0) x ∧ Fr ksM w w0 ∧ ∀ res, Gx q_k125 (d + 4) 426 ((19, .int (iZ 1)) :: lv.filter (x_keep 19), [], hp w0 N) res → Gx q_k125 (d + 4) 401 (lv, [.int (iZ (bZ true))], hp w N) res := ⟨_, h.fld _, (Fr.rf _ _).up (by decide), e125_t d hN h.1 lv hl.1 hl.2.1⟩
  have M0 : mFr9 m (st_ (st_ (st_ m 7 0) 8 0) 10 0) := fun i i7 i8 _ i10 => by rw [st_ne i10, st_ne i8, st_ne i7]
  have B0 : BtS (some []) (st_ (st_ (st_ m 7 0) 8 0) 10 0) (x 38) (x 39) (x 41) := BtS_0 hI.2.2.2
  obtain ⟨w1, m1, x1, R1, F1, e1, I1, M1, B1, X1⟩ := A117 d hN R0 hI hρ h1.1 L1 l (by omega) (by omega) (some []) B0 (fun C e => by
    cases e
    show 0 + D.length < 13
    omega)
  have ol := oth_len D l 0
  refine (k125 (d + 3) hN R1 I1 _ (sgm ρ) B1 (by omega) _ hL.1 hL.2.1).back (F0.tr (F1.sub kWM)) (fun j hj => e1 j (fun z => hj (kWM j z))) (fun i i7 i8 i9 i10 => (M1 i i7 i8 i10).trans (M0 i i7 i8 i9 i10)) (fun res hg => hg0 res (E125_1 (w2 := w) d hN R0.1 R1.1 i k j l p _ hL X1 res hg))
theorem v125_2 (d : Nat) (hN : 53 ≤ N) (h : RO w m x) (hI : RI x) (h1 : RD i D x) (L1 : LD 0 D (x 45)) (hρ : BdOK (x 45) (x 46) ρ) (k : Nat) (l : Int) (hk : k < D.length) (p : Int) (lv : xL) (hl : lv7 lv 2 i k j l p) : VD (d + 4) N w m x (oth k 0 D) (sgm ρ) 401 lv [.int (iZ (bZ true))] := by
  have g1 := h1.2.1.1
  have hL := hl.st (q := 19) (v := .int (iZ 1)) (by decide) rfl
  obtain ⟨w0, R0, F0, hg0⟩ : ∃ w0, RO w0 (st_ (st_ (st_ m 7 0) 8 0) 10 0) x ∧ Fr ksM w w0 ∧ ∀ res, Gx q_k125 (d + 4) 426 ((19, .int (iZ 1)) :: lv.filter (x_keep 19), [], hp w0 N) res → Gx q_k125 (d + 4) 401 (lv, [.int (iZ (bZ true))], hp w N) res := ⟨_, h.fld _, (Fr.rf _ _).up (by decide), e125_t d hN h.1 lv hl.1 hl.2.1⟩
  have M0 : mFr9 m (st_ (st_ (st_ m 7 0) 8 0) 10 0) := fun i i7 i8 _ i10 => by rw [st_ne i10, st_ne i8, st_ne i7]
  have B0 : BtS (some []) (st_ (st_ (st_ m 7 0) 8 0) 10 0) (x 38) (x 39) (x 41) := BtS_0 hI.2.2.2
  obtain ⟨w1, m1, x1, R1, F1, e1, I1, M1, B1, X1⟩ := A117 d hN R0 hI hρ h1.1 L1 k (by omega) (by omega) (some []) B0 (fun C e => by
    cases e
    show 0 + D.length < 13
    omega)
  have ol := oth_len D k 0
  refine (k125 (d + 3) hN R1 I1 _ (sgm ρ) B1 (by omega) _ hL.1 hL.2.1).back (F0.tr (F1.sub kWM)) (fun j hj => e1 j (fun z => hj (kWM j z))) (fun i i7 i8 i9 i10 => (M1 i i7 i8 i10).trans (M0 i i7 i8 i9 i10)) (fun res hg => hg0 res (E125_2 (w2 := w) d hN R0.1 R1.1 i k j l p _ hL X1 res hg))
theorem v125_3 (d : Nat) (hN : 53 ≤ N) (h : RO w m x) (hI : RI x) (h1 : RD i D x) (h2 : RD j D2 x) (L1 : LD 0 D (x 45)) (L2 : LD 44 (shC D2) (x 45)) (hρ : BdOK (x 45) (x 46) ρ) (k l : Nat) (hk : k < D.length) (lb : l < D2.length) (p : Int) (lv : xL) (hl : lv7 lv 3 i k j l p) (by_ : Int) (q : Nat) (hq : 1 + q < (lC (shC D2) l).2.length) (ob : okp (x 45) by_) (l17 : x_lk lv 17 = some (.int (iZ by_))) (l18 : x_lk lv 18 = some (.int (iZ (44 + (stC D2 l : Int) + 1 + q)))) : VD (d + 4) N w m x (oth k 0 D ++ rew l (rw3 (lC (shC D2) l).2 (tm (x 45) by_.toNat) q) 0 (shC D2)) (sgm ρ) 401 lv [.int (iZ (bZ true))] := by
  have g1 := h1.2.1.1
  have hL := hl.st (q := 19) (v := .int (iZ 1)) (by decide) rfl
  obtain ⟨w0, R0, F0, hg0⟩ : ∃ w0, RO w0 (st_ (st_ (st_ m 7 0) 8 0) 10 0) x ∧ Fr ksM w w0 ∧ ∀ res, Gx q_k125 (d + 4) 426 ((19, .int (iZ 1)) :: lv.filter (x_keep 19), [], hp w0 N) res → Gx q_k125 (d + 4) 401 (lv, [.int (iZ (bZ true))], hp w N) res := ⟨_, h.fld _, (Fr.rf _ _).up (by decide), e125_t d hN h.1 lv hl.1 hl.2.1⟩
  have M0 : mFr9 m (st_ (st_ (st_ m 7 0) 8 0) 10 0) := fun i i7 i8 _ i10 => by rw [st_ne i10, st_ne i8, st_ne i7]
  have B0 : BtS (some []) (st_ (st_ (st_ m 7 0) 8 0) 10 0) (x 38) (x 39) (x 41) := BtS_0 hI.2.2.2
  obtain ⟨w1, m1, x1, R1, F1, e1, I1, M1, B1, X1⟩ := A117 d hN R0 hI hρ h1.1 L1 k (by omega) (by omega) (some []) B0 (fun C e => by
    cases e
    show 0 + D.length < 13
    omega)
  have ol := oth_len D k 0
  have g2 := h2.2.1.1
  have hsl := shC_len D2
  have hcn : ∀ C, mk1 (some []) ((oth k 0 D).map (litS (sgm ρ))) = some C → C.length + (shC D2).length < 13 := fun C e => by
    have := mk1_le e
    rw [List.length_map] at this
    omega
  have hls : l < (shC D2).length := by omega
  have hT2 := (h2.2.1.shift _ (lC_mem hls)).2.1
  have hS160 : (x 45).length = 160 := hI.1.1
  have hf2 : (44 : Int) + (flt (shC D2)).length ≤ 88 := by
    have := h2.2.1.2.1
    rw [flt_shC, ren_len]
    omega
  have at_ := L2.at hS160 hf2 hls hT2 hq
  rw [stC_shC, show (44 : Int) + (stC D2 l : Int) + ((1 + q : Nat) : Int) = 44 + stC D2 l + 1 + q by omega] at at_
  have hfit := tm_fits hq
  have es := stC_succ hls
  rw [stC_shC, stC_shC] at es
  have er := LD_rw3 (G := tm (x 45) by_.toNat) L2 hS160 hf2 hls hT2 hq
  rw [stC_shC] at er
  have tl2 : (44 : Int) + (stC D2 l : Int) + 1 + q + (tm (x 45) (44 + (stC D2 l : Int) + 1 + q).toNat).length ≤ 44 + (stC (shC D2) (l + 1) : Int) := by
    rw [at_.2.1, stC_shC]
    omega
  have ox := ob.2.1
  obtain ⟨w2, m2, x2, R2, F2, e2, I2, M2, B2, X2⟩ := A127 (D := shC D2) (c := j) (ρ := ρ) d hN R1 I1 (by rw [e1 45 (by decide), e1 46 (by decide)]; exact hρ) (by rw [e1 30 (by decide), e1 29 (by decide), e1 33 (by decide)]; exact h2.1.sh) (by rw [e1 45 (by decide)]; exact L2) l (44 + (stC D2 l : Int) + 1 + q) by_ (by rw [stC_shC]; omega) (by rw [e1 45 (by decide)]; exact tl2) (by rw [e1 45 (by decide), at_.2.1]; exact Ts_at hT2 hq) ob.1 (by rw [e1 45 (by decide)]; exact ob.2.2) (by rw [e1 45 (by decide)]; omega) hls _ B1 hcn
  have ol2 := rew_len (shC D2) l (rw3 (lC (shC D2) l).2 (tm (x 45) by_.toNat) q) 0
  rw [e1 45 (by decide), stC_shC, er, ← mk1_app, ← List.map_append] at B2
  refine (k125 (d + 3) hN R2 I2 _ (sgm ρ) B2 (by rw [List.length_append]; omega) _ hL.1 hL.2.1).back ((F0.tr (F1.sub kWM)).tr (F2.sub kWM)) (fun j hj => (e2 j (fun z => hj (kWM j z))).trans (e1 j (fun z => hj (kWM j z)))) (fun i i7 i8 i9 i10 => (M2 i i7 i8 i10).trans ((M1 i i7 i8 i10).trans (M0 i i7 i8 i9 i10))) (fun res hg => hg0 res (E125_3 d hN R0.1 R1.1 i k j l p (44 + (stC D2 l : Int) + 1 + q) by_ _ hL (by rw [lk_s hl.1]; exact l17) (by rw [lk_s hl.1]; exact l18) X1 X2 res hg))
end MX
