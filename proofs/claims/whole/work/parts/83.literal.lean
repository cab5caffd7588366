/-! the reference: a literal is read, to its end -/

def ksL : List Nat := [36, 38, 39, 41, 49]
theorem hdU_he {D : List Int} {a b : Int} {r : List Int} (h0 : 0 ≤ a) (hb : b ≤ D.length) (h : seg D a b = r) : hdU r = decide (65 ≤ heZ D a b ∧ heZ D a b ≤ 90) := by
  cases r with
  | nil =>
    rw [sg_0 h0 hb h]
    rfl
  | cons c r =>
    rw [(sg_c h0 hb h).2.1]
    rfl
section LJ
variable {w : Nat → xC} {N : Nat} {m : Nat → Int} {x : Nat → List Int} {C : List (Int × List Int)} {lv : xL}
theorem A100r (d : Nat) (hN : 53 ≤ N) (h : RO w m x) (hd : ∀ i, 0 ≤ i → i < m 3 → 0 ≤ gZ (x 37) i ∧ gZ (x 37) i < 128) (h4 : 0 ≤ m 4) (h43 : m 4 ≤ m 3) (h3 : m 3 ≤ 60) (h7 : 0 ≤ m 7) (h74 : m 7 ≤ m 4) (h5 : m 5 = 0) :
    (∀ t r1, rdT 30 (seg (x 37) (m 4) (m 3)) = some (t, r1) → ∃ (w' : Nat → xC) (m' : Nat → Int) (x' : Nat → List Int), RO w' m' x' ∧ Fr ksR w w' ∧ (∀ j, j ≠ 38 → j ≠ 49 → x' j = x j) ∧ mT m m' ∧ m' 5 = 0 ∧ seg (x 37) (m' 4) (m' 3) = r1 ∧ m 4 ≤ m' 4 ∧ m' 4 ≤ m 3 ∧ m' 7 = m 7 + t.length ∧ m' 7 ≤ m' 4 ∧ (∀ j, 0 ≤ j → j < m 7 → gZ (x' 38) j = gZ (x 38) j) ∧ (∀ j : Nat, j < t.length → gZ (x' 38) (m 7 + j) = t.getD j 0) ∧ Xc (d + 3) 100 [.ref 30] (hp w N) (none, hp w' N)) ∧
    (rdT 30 (seg (x 37) (m 4) (m 3)) = none → ∃ (w' : Nat → xC) (m' : Nat → Int) (x' : Nat → List Int), RO w' m' x' ∧ Fr ksR w w' ∧ (∀ j, j ≠ 38 → j ≠ 49 → x' j = x j) ∧ mT m m' ∧ m' 5 = 1 ∧ 0 ≤ m' 4 ∧ m' 4 ≤ m 3 ∧ m 7 ≤ m' 7 ∧ m' 7 ≤ m' 4 ∧ (∀ j, 0 ≤ j → j < m 7 → gZ (x' 38) j = gZ (x 38) j) ∧ (∀ j, m 7 ≤ j → j < m' 7 → sgR (gZ (x' 38) j)) ∧ Xc (d + 3) 100 [.ref 30] (hp w N) (none, hp w' N)) := by
  have H := m100 d hN (h.tr hd h4 h43 h3 h7 h74) h5
  refine ⟨fun t r1 e => ?_, fun e => ?_⟩
  · obtain ⟨w', m', R', St', a1, a2, a3, a4, a5, a45, a6, a7, a8, a9⟩ := H.1 t r1 e
    have k3 := a3 3 (by decide) (by decide) (by decide)
    have k4 := a1.2.2.2.2.2.2.2.2.1
    exact ⟨w', m', ux (ux x 38 R') 49 St', h.ofTR a2 a1, a2, fun j j1 j2 => by rw [ux_ne j2, ux_ne j1], a3, a4, a5, a45, by omega, a6, a1.2.2.2.2.2.2.2.2.2.2.2.2, a7, a8, a9⟩
  · obtain ⟨w', m', R', St', a1, a2, a3, a4, a5, a6, a7, a8⟩ := H.2 e
    have k3 := a3 3 (by decide) (by decide) (by decide)
    have k4 := a1.2.2.2.2.2.2.2.2.1
    exact ⟨w', m', ux (ux x 38 R') 49 St', h.ofTR a2 a1, a2, fun j j1 j2 => by rw [ux_ne j2, ux_ne j1], a3, a4, a1.2.2.2.2.2.2.2.1, by omega, a5, a1.2.2.2.2.2.2.2.2.2.2.2.2, a6, a7, a8⟩
theorem A102r (d : Nat) (hN : 53 ≤ N) (h : RO w m x) (u : Bool) (hU : UOK (x 36)) (h6 : m 6 = bZ u) (fr to : Int) (p : Bool) (f0 : 0 ≤ fr) (f1 : fr ≤ to) (hto : to ≤ 600) (hr : ∀ i, fr ≤ i → i < to → 0 ≤ gZ (x 38) i ∧ gZ (x 38) i < 204) :
    ∃ (w' : Nat → xC) (m' : Nat → Int) (x' : Nat → List Int), RO w' m' x' ∧ Fr [27, 36] w w' ∧ (∀ j, j ≠ 36 → x' j = x j) ∧ (∀ i, i ≠ 6 → m' i = m i) ∧ x' 36 = (if p = true then ntA (seg (x 38) fr to) (x 36, u) else ntL (seg (x 38) fr to) (x 36, u)).1 ∧ m' 6 = bZ (if p = true then ntA (seg (x 38) fr to) (x 36, u) else ntL (seg (x 38) fr to) (x 36, u)).2 ∧ UOK (x' 36) ∧ Xc (d + 2) 102 [.ref 30, .int (iZ fr), .int (iZ to), .int (iZ (bZ p))] (hp w N) (none, hp w' N) := by
  have r_ : ∀ j, 28 ≤ j → j ≤ 51 → w j = cI (kdR j) (x j) ∧ (x j).length = lnR j := h.2
  obtain ⟨w', m', a1, a2, a3, a4, a5, a6, a7⟩ := m102 d hN fr to p (r_ 38 (by decide) (by decide)).2 f0 f1 hto (x 36, u) h.1 (r_ 38 (by decide) (by decide)).1 (r_ 36 (by decide) (by decide)).1 hU h6 hr
  refine ⟨w', m', ux x 36 _, ?_, a1, fun j hj => ux_ne hj, a3, ux_at _ _ _, a4, by rw [ux_at]; exact a6, a7⟩
  refine RO.upd (ks := [36]) h a1 a2 (fun j hj => ?_) (fun j hj => ?_)
  · rw [List.mem_singleton] at hj
    subst hj
    rw [ux_at]
    exact ⟨a5, a6.1⟩
  · rw [List.mem_singleton] at hj
    exact ux_ne hj
theorem T174 (d : Nat) (hN : 53 ≤ N) (h : RO w m x) (hI : RI x) (hW : RW C (x 38) (x 39) (x 41)) (hc6 : C.length ≤ 6) (e8 : m 8 = C.length) (h7 : ((flt C).length : Int) ≤ m 7) (h7' : m 7 ≤ 90) (hr : ∀ i, 0 ≤ i → i < m 7 → 0 ≤ gZ (x 38) i ∧ gZ (x 38) i < 100000) (hc : c1 lv) (l0 : x_lk lv 0 = some (.ref 30)) :
    ∃ (w' : Nat → xC) (m' : Nat → Int) (x' : Nat → List Int) (tw : Bool), RO w' m' x' ∧ RI x' ∧ Fr [27, 39] w w' ∧ (∀ j, j ≠ 39 → x' j = x j) ∧ (∀ i, i ≠ 7 → i ≠ 8 → m' i = m i) ∧ x' 39 = sZ (x 39) (C.length + 1) (m 7) ∧ tw = twF (sameL (x 38) (sZ (x 39) (C.length + 1) (m 7)) (x 41) C.length (m 7 - (flt C).length)) C.length 0 ∧ m' 8 = (if tw = true then (C.length : Int) else C.length + 1) ∧ m' 7 = (if tw = true then ((flt C).length : Int) else m 7) ∧ Gx q_k103 (d + 1) 174 (lv, [], hp w N) (none, hp w' N) := by
  obtain ⟨tw, htw, hg⟩ := F174 d hN h hI hW hc6 e8 h7 h7' hr hc l0
  have n39 : (x 39).length = 14 := (h.2 39 (by decide) (by decide)).2
  have R1 : RO (uH (uH w 27 (.inr (8, mF (if tw = true then st_ (st_ m 7 (flt C).length) 8 C.length else st_ m 8 (C.length + 1))))) 39 (cI 0 (sZ (x 39) (C.length + 1) (m 7)))) (if tw = true then st_ (st_ m 7 (flt C).length) 8 C.length else st_ m 8 (C.length + 1)) (ux x 39 (sZ (x 39) (C.length + 1) (m 7))) := (h.fld _).set (j := 39) (by decide) (by rw [sZ_len]; exact n39)
  refine ⟨_, _, _, tw, R1, ⟨hI.1, hI.2.1, hI.2.2.1, ?_⟩, ((Fr.rf _ _).up (by decide)).up (by decide), fun j hj => ux_ne hj, fun i i7 i8 => ?_, ux_at _ _ _, htw, ?_, ?_, hg⟩
  · show gZ (sZ (x 39) (C.length + 1) (m 7)) 0 = 0
    rw [gZ_sZ (by omega) (by omega) (by omega), if_neg (by omega)]
    exact hI.2.2.2
  · cases tw with
    | true => rw [if_pos rfl, st_ne i8, st_ne i7]
    | false => rw [if_neg (by decide), st_ne i8]
  · cases tw with
    | true => rw [if_pos rfl, if_pos rfl, st_at]
    | false => rw [if_neg (by decide), if_neg (by decide), st_at]
  · cases tw with
    | true => rw [if_pos rfl, if_pos rfl, st_ne (by decide), st_at]
    | false => rw [if_neg (by decide), if_neg (by decide), st_ne (by decide)]
theorem T174k (d : Nat) (hN : 53 ≤ N) (h : RO w m x) (hI : RI x) (hW : RW C (x 38) (x 39) (x 41)) (hv : vC C) (hc6 : C.length ≤ 6) (e8 : m 8 = C.length) (b : Int) (A : List Int) (hvx : vC [(b, A)]) (hA : ∀ j : Nat, j < A.length → gZ (x 38) ((flt C).length + j) = A.getD j 0) (hb : gZ (x 41) C.length = b) (e7 : m 7 = (flt C).length + A.length) (h7' : m 7 ≤ 90) (hc : c1 lv) (l0 : x_lk lv 0 = some (.ref 30)) :
    ∃ (w' : Nat → xC) (m' : Nat → Int) (x' : Nat → List Int), RO w' m' x' ∧ RI x' ∧ Fr [27, 39] w w' ∧ (∀ j, j ≠ 39 → x' j = x j) ∧ (∀ i, i ≠ 7 → i ≠ 8 → m' i = m i) ∧ RW (adL C (b, A)) (x' 38) (x' 39) (x' 41) ∧ vC (adL C (b, A)) ∧ m' 8 = (adL C (b, A)).length ∧ m' 7 = (flt (adL C (b, A))).length ∧ m' 7 ≤ m 7 ∧ Gx q_k103 (d + 1) 174 (lv, [], hp w N) (none, hp w' N) := by
  have n39 : (x 39).length = 14 := (h.2 39 (by decide) (by decide)).2
  have hr : ∀ i, 0 ≤ i → i < m 7 → 0 ≤ gZ (x 38) i ∧ gZ (x 38) i < 100000 := fun i i0 i1 => by
    by_cases hi : i < (flt C).length
    · have := hW.1 i.toNat (by omega)
      rw [show ((i.toNat : Nat) : Int) = i by omega] at this
      rw [this]
      obtain ⟨y, hy, hz⟩ := flt_of (getD_mem (l := flt C) (i := i.toNat) (by omega))
      have := (hv y hy).2 _ hz
      omega
    · have := hA (i - (flt C).length).toNat (by omega)
      rw [show ((flt C).length : Int) + (((i - (flt C).length).toNat : Nat) : Int) = i by omega] at this
      rw [this]
      have := (hvx _ List.mem_cons_self).2 _ (getD_mem (l := A) (i := (i - (flt C).length).toNat) (by omega))
      omega
  obtain ⟨w', m', x', tw, a1, a2, a3, a4, a5, a6, a7, a8, a9, a10⟩ := T174 d hN h hI hW hc6 e8 (by omega) h7' hr hc l0
  have hW2 : RW (C ++ [(b, A)]) (x 38) (sZ (x 39) (C.length + 1) (m 7)) (x 41) := hW.push hA hb (fun k hk => by rw [gZ_sZ (by omega) (by omega) (by omega), if_neg (by omega)]) (by rw [gZ_sZ (by omega) (by omega) (by omega), if_pos rfl, e7])
  have et := hW2.twice
  rw [show m 7 - ((flt C).length : Int) = (A.length : Int) by omega, et] at a7
  have e38 := a4 38 (by decide)
  have e41 := a4 41 (by decide)
  by_cases hx : (b, A) ∈ C
  · have ea : adL C (b, A) = C := if_pos hx
    rw [decide_eq_true hx] at a7
    subst a7
    rw [if_pos rfl] at a8 a9
    refine ⟨w', m', x', a1, a2, a3, a4, a5, ?_, by rw [ea]; exact hv, by rw [ea]; exact a8, by rw [ea]; exact a9, by omega, a10⟩
    rw [ea, e38, e41, a6]
    exact hW2.pop
  · have ea : adL C (b, A) = C ++ [(b, A)] := if_neg hx
    rw [decide_eq_false hx] at a7
    subst a7
    rw [if_neg (by decide)] at a8 a9
    refine ⟨w', m', x', a1, a2, a3, a4, a5, ?_, by rw [ea]; exact hv.app hvx, by rw [ea, a8]; simp, by rw [ea, a9, e7, flt_app, flt_cons, flt_nil, List.append_nil, List.length_append]; show ((flt C).length : Int) + A.length = (((flt C).length + A.length : Nat) : Int); omega, by omega, a10⟩
    rw [ea, e38, e41, a6]
    exact hW2
theorem B103 (d : Nat) (hN : 53 ≤ N) (h : RO w m x) (hI : RI x) (hc6 : C.length ≤ 6) (e8 : m 8 = C.length) (e7 : gZ (x 39) C.length = m 7) (hd : ∀ i, 0 ≤ i → i < m 3 → 0 ≤ gZ (x 37) i ∧ gZ (x 37) i < 128) (h4 : 0 ≤ m 4) (h43 : m 4 ≤ m 3) (h3 : m 3 ≤ 60) (h7 : 0 ≤ m 7) (h74 : m 7 ≤ m 4) :
    ∃ (b : Bool) (r' : List Int) (w1 : Nat → xC) (m1 : Nat → Int) (x1 : Nat → List Int) (lv1 : xL), (b = true → seg (x 37) (m 4) (m 3) = 126 :: r') ∧ (b = false → seg (x 37) (m 4) (m 3) = r' ∧ ∀ r2, r' ≠ 126 :: r2) ∧ RO w1 m1 x1 ∧ RI x1 ∧ Fr [27, 41] w w1 ∧ (∀ j, j ≠ 41 → x1 j = x j) ∧ (∀ i, i ≠ 4 → m1 i = m i) ∧ m 4 ≤ m1 4 ∧ m1 4 ≤ m 3 ∧ seg (x 37) (m1 4) (m 3) = r' ∧ (∀ i : Int, 0 ≤ i → i ≠ (C.length : Int) → gZ (x1 41) i = gZ (x 41) i) ∧ gZ (x1 41) C.length = bZ b ∧ c1 lv1 ∧ x_lk lv1 0 = some (.ref 30) ∧ x_lk lv1 1 = some (.int (iZ (m 7))) ∧ x_lk lv1 2 = some (.int (iZ (bZ (hdU r')))) ∧ ∀ res, Gx q_k103 (d + 3) 57 (lv1, [], hp w1 N) res → Gx q_k103 (d + 3) 0 (lv_args 0 [.ref 30], [], hp w N) res := by
  have hT := h.tr hd h4 h43 h3 h7 h74
  have r_ : ∀ j, 28 ≤ j → j ≤ 51 → w j = cI (kdR j) (x j) ∧ (x j).length = lnR j := h.2
  have hm := h.1
  have h39 : w 39 = cI 0 (x 39) := (r_ 39 (by decide) (by decide)).1
  have n39 : (x 39).length = 14 := (r_ 39 (by decide) (by decide)).2
  have h41 : w 41 = cI 1 (x 41) := (r_ 41 (by decide) (by decide)).1
  have n41 : (x 41).length = 14 := (r_ 41 (by decide) (by decide)).2
  have n37 : (x 37).length = 60 := (r_ 37 (by decide) (by decide)).2
  have eS : sZ (x 39) C.length (m 7) = x 39 := sZ_same e7 (by omega) (by omega)
  have e39 : uH w 39 (cI 0 (x 39)) = w := uH_self h39
  have hc : c1 (lv_args 0 [.ref 30]) := by simp [c1, lv_args, Value.category]
  have l0 : x_lk (lv_args 0 [.ref 30]) 0 = some (.ref 30) := rfl
  generalize lv_args 0 [.ref 30] = lv0 at hc l0
  have key : ∀ (b : Bool) (r' : List Int) (w1 : Nat → xC) (m1 : Nat → Int), (b = true → seg (x 37) (m 4) (m 3) = 126 :: r') → (b = false → seg (x 37) (m 4) (m 3) = r' ∧ ∀ r2, r' ≠ 126 :: r2) → w1 = uH (uH w 27 (.inr (8, mF m1))) 41 (cI 1 (sZ (x 41) C.length (bZ b))) → (∀ i, i ≠ 4 → m1 i = m i) → m 4 ≤ m1 4 → m1 4 ≤ m 3 → seg (x 37) (m1 4) (m 3) = r' → (∀ res, Gx q_k103 (d + 3) 28 (lv0, [], hp w1 N) res → Gx q_k103 (d + 3) 0 (lv0, [], hp w N) res) → ∃ (b : Bool) (r' : List Int) (w1 : Nat → xC) (m1 : Nat → Int) (x1 : Nat → List Int) (lv1 : xL), (b = true → seg (x 37) (m 4) (m 3) = 126 :: r') ∧ (b = false → seg (x 37) (m 4) (m 3) = r' ∧ ∀ r2, r' ≠ 126 :: r2) ∧ RO w1 m1 x1 ∧ RI x1 ∧ Fr [27, 41] w w1 ∧ (∀ j, j ≠ 41 → x1 j = x j) ∧ (∀ i, i ≠ 4 → m1 i = m i) ∧ m 4 ≤ m1 4 ∧ m1 4 ≤ m 3 ∧ seg (x 37) (m1 4) (m 3) = r' ∧ (∀ i : Int, 0 ≤ i → i ≠ (C.length : Int) → gZ (x1 41) i = gZ (x 41) i) ∧ gZ (x1 41) C.length = bZ b ∧ c1 lv1 ∧ x_lk lv1 0 = some (.ref 30) ∧ x_lk lv1 1 = some (.int (iZ (m 7))) ∧ x_lk lv1 2 = some (.int (iZ (bZ (hdU r')))) ∧ ∀ res, Gx q_k103 (d + 3) 57 (lv1, [], hp w1 N) res → Gx q_k103 (d + 3) 0 (lv0, [], hp w N) res := by
    intro b r' w1 m1 hb1 hb2 hw1 k1 k2 k3 k4 k5
    have R1 : RO w1 m1 (ux x 41 (sZ (x 41) C.length (bZ b))) := by rw [hw1]; exact (h.fld m1).set (j := 41) (by decide) (by rw [sZ_len]; exact n41)
    have y3 : m1 3 = m 3 := k1 3 (by decide)
    have y7 : m1 7 = m 7 := k1 7 (by decide)
    have hm1 := R1.1
    have X := m95 (w := w1) (m := m1) (D := x 37) (d + 2) hN R1.1 (R1.2 37 (by decide) (by decide)).1 n37 (by omega) (by omega) (by omega) (fun i i0 i1 => hd i i0 (by omega))
    rw [y3] at X
    have hh := hdU_he (D := x 37) (a := m1 4) (b := m 3) (by omega) (by omega) k4
    have C1 := c1_st (i := 1) (v := .int (iZ (m 7))) rfl hc
    have C2 := c1_st (i := 2) (v := .int (iZ (bZ (hdU r')))) rfl C1
    refine ⟨b, r', w1, m1, _, (2, .int (iZ (bZ (hdU r')))) :: List.filter (x_keep 2) ((1, .int (iZ (m 7))) :: List.filter (x_keep 1) lv0), hb1, hb2, R1, ⟨hI.1, fun i => ?_, hI.2.2⟩, ?_, fun j hj => ux_ne hj, k1, k2, k3, k4, fun i i0 i1 => ?_, ?_, C2, ?_, ?_, ?_, fun res hg => k5 res (Gx.run 60 X (fun K mm => ?_) hg)⟩
    · show gZ (sZ (x 41) C.length (bZ b)) i = 0 ∨ gZ (sZ (x 41) C.length (bZ b)) i = 1
      rcases sZ_or (x 41) C.length (bZ b) i with e | e
      · rw [e]
        cases b
        · exact Or.inl rfl
        · exact Or.inr rfl
      · rw [e]
        exact hI.2.1 i
    · rw [hw1]
      exact ((Fr.rf _ _).up (by decide)).up (by decide)
    · rw [ux_at, gZ_sZ (by omega) (by omega) i0, if_neg (fun z => i1 z.symm)]
    · rw [ux_at, gZ_sZ (by omega) (by omega) (by omega), if_pos rfl]
    · rw [lk_s C1, lk_s hc]; exact l0
    · rw [lk_s C1, lk_s hc]; rfl
    · rw [lk_s C1]; rfl
    · have rg : 0 ≤ heZ (x 37) (m1 4) (m 3) ∧ heZ (x 37) (m1 4) (m 3) < 128 := by
        unfold heZ
        split
        · next h => exact hd _ (by omega) h
        · omega
      obtain ⟨c, hce⟩ : ∃ c, c = heZ (x 37) (m1 4) (m 3) := ⟨_, rfl⟩
      rw [← hce] at hh rg mm
      by_cases b1 : c < 65
      · rw [decide_eq_false (by omega)] at hh
        rw [hh]
        simp (disch := first | (refine c1_id ?_; assumption) | (refine c1_st rfl ?_; repeat (first | assumption | refine c1_st rfl ?_)) | omega) [nx_l, nx_r, nx_n, x_st, x_push, x_bin, x_div, x_un, x_dup, x_pop, x_dup2, x_goto, x_ifeq, x_ifne, x_iflt, x_ifge, x_ifgt, x_ifle, x_iceq, x_icne, x_iclt, x_icge, x_icgt, x_icle, x_ifnull, x_ifnonnull, x_ldi, x_lda, x_sti, x_sta, x_iinc, x_gf, x_pf, x_ald, x_ast, x_aln, x_len, x_cl_, x_cv, x_cs, x_rc, x_r0, x_isT, x_oi, x_rv, x_ri, x_ra, Value.category, t103_0, t103_1, t103_4, t103_5, t103_8, t103_9, t103_12, t103_13, t103_14, t103_17, t103_18, t103_21, t103_22, t103_24, t103_27, t103_28, t103_29, t103_32, t103_33, t103_34, t103_37, t103_39, t103_42, t103_43, t103_46, t103_48, t103_51, t103_52, t103_55, t103_56, t103_57, t103_58, t103_61, t103_62, t103_65, t103_68, t103_69, t103_71, t103_74, t103_77, t103_78, t103_81, t103_82, t103_83, t103_84, t103_87, t103_88, t103_91, t103_92, t103_93, t103_96, t103_97, t103_98, t103_99, t103_100, t103_101, t103_104, t103_107, t103_108, t103_111, t103_112, t103_114, t103_115, t103_116, t103_117, t103_120, t103_121, t103_122, t103_125, t103_126, t103_129, t103_130, t103_131, t103_132, t103_133, t103_134, t103_137, t103_138, t103_141, t103_144, t103_145, t103_146, t103_149, t103_152, t103_153, t103_156, t103_157, t103_160, t103_161, t103_164, t103_165, t103_166, t103_167, t103_170, t103_171, t103_174, t103_175, t103_176, t103_179, t103_180, t103_181, t103_184, t103_185, t103_188, t103_189, t103_192, t103_193, t103_196, t103_197, t103_198, t103_199, t103_202, t103_203, t103_204, t103_207, t103_210, t103_211, t103_212, t103_215, t103_216, t103_217, t103_220, t103_221, t103_222, t103_225, t103_226, t103_229, t103_230, t103_233, lk_s, hp_get, hp_set, uH_at, uH_ne, uH_upd, uH_swap, iZ_add, iZ_sub, iZ_mul, iZ_neg, iZ_lt, iZ_le, iZ_eq, iZ_div, iZ_of, ix_Z, gZ_map, gZ_mapI, gZ_map', le_0, le_s, sZ_map, sZ_len, bZ_0, bZ_inj, bZ_t, bZ_f, nr_i, nr_0, nr_1, nr_b, ft_i, ft_b, ft_0, ft_1, zl_0, zl_1, zl_61, zl_65, zl_90, zl_99, zl_126, mF_len, mg_0, mg_1, mg_2, mg_3, mg_4, mg_5, mg_6, mg_7, mg_8, mg_9, mg_10, mg_11, mg_12, mg_13, mg_14, mg_15, mg_16, mg_17, mg_18, mg_19, mg_20, mg_21, mg_22, mg_23, mg_24, mg_25, mg_26, mg_27, mg_28, mg_29, mg_30, mg_31, mg_32, mg_33, mg_34, mg_35, mg_36, mg_37, mg_38, ms_0, ms_1, ms_2, ms_13, ms_14, ms_15, ms_16, ms_21, ms_22, ms_23, ms_24, ms_28, ms_36, ms_37, ms_38, st_at, st_ne, st_st, st_swap, l0, hm1, y7, b1, mm, -List.filter_filter, -List.getElem?_map, -List.getD_eq_getElem?_getD]
      · by_cases b2 : 90 < c
        · rw [decide_eq_false (by omega)] at hh
          rw [hh]
          simp (disch := first | (refine c1_id ?_; assumption) | (refine c1_st rfl ?_; repeat (first | assumption | refine c1_st rfl ?_)) | omega) [nx_l, nx_r, nx_n, x_st, x_push, x_bin, x_div, x_un, x_dup, x_pop, x_dup2, x_goto, x_ifeq, x_ifne, x_iflt, x_ifge, x_ifgt, x_ifle, x_iceq, x_icne, x_iclt, x_icge, x_icgt, x_icle, x_ifnull, x_ifnonnull, x_ldi, x_lda, x_sti, x_sta, x_iinc, x_gf, x_pf, x_ald, x_ast, x_aln, x_len, x_cl_, x_cv, x_cs, x_rc, x_r0, x_isT, x_oi, x_rv, x_ri, x_ra, Value.category, t103_0, t103_1, t103_4, t103_5, t103_8, t103_9, t103_12, t103_13, t103_14, t103_17, t103_18, t103_21, t103_22, t103_24, t103_27, t103_28, t103_29, t103_32, t103_33, t103_34, t103_37, t103_39, t103_42, t103_43, t103_46, t103_48, t103_51, t103_52, t103_55, t103_56, t103_57, t103_58, t103_61, t103_62, t103_65, t103_68, t103_69, t103_71, t103_74, t103_77, t103_78, t103_81, t103_82, t103_83, t103_84, t103_87, t103_88, t103_91, t103_92, t103_93, t103_96, t103_97, t103_98, t103_99, t103_100, t103_101, t103_104, t103_107, t103_108, t103_111, t103_112, t103_114, t103_115, t103_116, t103_117, t103_120, t103_121, t103_122, t103_125, t103_126, t103_129, t103_130, t103_131, t103_132, t103_133, t103_134, t103_137, t103_138, t103_141, t103_144, t103_145, t103_146, t103_149, t103_152, t103_153, t103_156, t103_157, t103_160, t103_161, t103_164, t103_165, t103_166, t103_167, t103_170, t103_171, t103_174, t103_175, t103_176, t103_179, t103_180, t103_181, t103_184, t103_185, t103_188, t103_189, t103_192, t103_193, t103_196, t103_197, t103_198, t103_199, t103_202, t103_203, t103_204, t103_207, t103_210, t103_211, t103_212, t103_215, t103_216, t103_217, t103_220, t103_221, t103_222, t103_225, t103_226, t103_229, t103_230, t103_233, lk_s, hp_get, hp_set, uH_at, uH_ne, uH_upd, uH_swap, iZ_add, iZ_sub, iZ_mul, iZ_neg, iZ_lt, iZ_le, iZ_eq, iZ_div, iZ_of, ix_Z, gZ_map, gZ_mapI, gZ_map', le_0, le_s, sZ_map, sZ_len, bZ_0, bZ_inj, bZ_t, bZ_f, nr_i, nr_0, nr_1, nr_b, ft_i, ft_b, ft_0, ft_1, zl_0, zl_1, zl_61, zl_65, zl_90, zl_99, zl_126, mF_len, mg_0, mg_1, mg_2, mg_3, mg_4, mg_5, mg_6, mg_7, mg_8, mg_9, mg_10, mg_11, mg_12, mg_13, mg_14, mg_15, mg_16, mg_17, mg_18, mg_19, mg_20, mg_21, mg_22, mg_23, mg_24, mg_25, mg_26, mg_27, mg_28, mg_29, mg_30, mg_31, mg_32, mg_33, mg_34, mg_35, mg_36, mg_37, mg_38, ms_0, ms_1, ms_2, ms_13, ms_14, ms_15, ms_16, ms_21, ms_22, ms_23, ms_24, ms_28, ms_36, ms_37, ms_38, st_at, st_ne, st_st, st_swap, l0, hm1, y7, b1, b2, mm, -List.filter_filter, -List.getElem?_map, -List.getD_eq_getElem?_getD]
        · rw [decide_eq_true (by omega)] at hh
          rw [hh]
          simp (disch := first | (refine c1_id ?_; assumption) | (refine c1_st rfl ?_; repeat (first | assumption | refine c1_st rfl ?_)) | omega) [nx_l, nx_r, nx_n, x_st, x_push, x_bin, x_div, x_un, x_dup, x_pop, x_dup2, x_goto, x_ifeq, x_ifne, x_iflt, x_ifge, x_ifgt, x_ifle, x_iceq, x_icne, x_iclt, x_icge, x_icgt, x_icle, x_ifnull, x_ifnonnull, x_ldi, x_lda, x_sti, x_sta, x_iinc, x_gf, x_pf, x_ald, x_ast, x_aln, x_len, x_cl_, x_cv, x_cs, x_rc, x_r0, x_isT, x_oi, x_rv, x_ri, x_ra, Value.category, t103_0, t103_1, t103_4, t103_5, t103_8, t103_9, t103_12, t103_13, t103_14, t103_17, t103_18, t103_21, t103_22, t103_24, t103_27, t103_28, t103_29, t103_32, t103_33, t103_34, t103_37, t103_39, t103_42, t103_43, t103_46, t103_48, t103_51, t103_52, t103_55, t103_56, t103_57, t103_58, t103_61, t103_62, t103_65, t103_68, t103_69, t103_71, t103_74, t103_77, t103_78, t103_81, t103_82, t103_83, t103_84, t103_87, t103_88, t103_91, t103_92, t103_93, t103_96, t103_97, t103_98, t103_99, t103_100, t103_101, t103_104, t103_107, t103_108, t103_111, t103_112, t103_114, t103_115, t103_116, t103_117, t103_120, t103_121, t103_122, t103_125, t103_126, t103_129, t103_130, t103_131, t103_132, t103_133, t103_134, t103_137, t103_138, t103_141, t103_144, t103_145, t103_146, t103_149, t103_152, t103_153, t103_156, t103_157, t103_160, t103_161, t103_164, t103_165, t103_166, t103_167, t103_170, t103_171, t103_174, t103_175, t103_176, t103_179, t103_180, t103_181, t103_184, t103_185, t103_188, t103_189, t103_192, t103_193, t103_196, t103_197, t103_198, t103_199, t103_202, t103_203, t103_204, t103_207, t103_210, t103_211, t103_212, t103_215, t103_216, t103_217, t103_220, t103_221, t103_222, t103_225, t103_226, t103_229, t103_230, t103_233, lk_s, hp_get, hp_set, uH_at, uH_ne, uH_upd, uH_swap, iZ_add, iZ_sub, iZ_mul, iZ_neg, iZ_lt, iZ_le, iZ_eq, iZ_div, iZ_of, ix_Z, gZ_map, gZ_mapI, gZ_map', le_0, le_s, sZ_map, sZ_len, bZ_0, bZ_inj, bZ_t, bZ_f, nr_i, nr_0, nr_1, nr_b, ft_i, ft_b, ft_0, ft_1, zl_0, zl_1, zl_61, zl_65, zl_90, zl_99, zl_126, mF_len, mg_0, mg_1, mg_2, mg_3, mg_4, mg_5, mg_6, mg_7, mg_8, mg_9, mg_10, mg_11, mg_12, mg_13, mg_14, mg_15, mg_16, mg_17, mg_18, mg_19, mg_20, mg_21, mg_22, mg_23, mg_24, mg_25, mg_26, mg_27, mg_28, mg_29, mg_30, mg_31, mg_32, mg_33, mg_34, mg_35, mg_36, mg_37, mg_38, ms_0, ms_1, ms_2, ms_13, ms_14, ms_15, ms_16, ms_21, ms_22, ms_23, ms_24, ms_28, ms_36, ms_37, ms_38, st_at, st_ne, st_st, st_swap, l0, hm1, y7, b1, b2, mm, -List.filter_filter, -List.getElem?_map, -List.getD_eq_getElem?_getD]
  by_cases he : heZ (x 37) (m 4) (m 3) = 126
  · have X := x96y (d + 1) hN hT he (by omega) (by omega)
    have hlt : m 4 < m 3 := by
      unfold heZ at he
      split at he
      · assumption
      · omega
    have hsc := seg_cons (P := x 37) h4 hlt (by omega)
    have hg0 : gZ (x 37) (m 4) = 126 := by
      unfold heZ at he
      rw [if_pos hlt] at he
      exact he
    rw [hg0] at hsc
    refine key true (seg (x 37) (m 4 + 1) (m 3)) _ (st_ m 4 (m 4 + 1)) (fun _ => hsc) (fun z => (by cases z)) rfl (fun i hi => st_ne hi) (by rw [st_at]; omega) (by rw [st_at]; omega) (by rw [st_at]) (fun res hg => Gx.run 60 X (fun K mm => ?_) hg)
    have nb : vp_nar .boolean (iZ 1) = iZ 1 := nar_of (Or.inr rfl)
    simp (disch := first | (refine c1_id ?_; assumption) | (refine c1_st rfl ?_; repeat (first | assumption | refine c1_st rfl ?_)) | omega) [nx_l, nx_r, nx_n, x_st, x_push, x_bin, x_div, x_un, x_dup, x_pop, x_dup2, x_goto, x_ifeq, x_ifne, x_iflt, x_ifge, x_ifgt, x_ifle, x_iceq, x_icne, x_iclt, x_icge, x_icgt, x_icle, x_ifnull, x_ifnonnull, x_ldi, x_lda, x_sti, x_sta, x_iinc, x_gf, x_pf, x_ald, x_ast, x_aln, x_len, x_cl_, x_cv, x_cs, x_rc, x_r0, x_isT, x_oi, x_rv, x_ri, x_ra, Value.category, t103_0, t103_1, t103_4, t103_5, t103_8, t103_9, t103_12, t103_13, t103_14, t103_17, t103_18, t103_21, t103_22, t103_24, t103_27, t103_28, t103_29, t103_32, t103_33, t103_34, t103_37, t103_39, t103_42, t103_43, t103_46, t103_48, t103_51, t103_52, t103_55, t103_56, t103_57, t103_58, t103_61, t103_62, t103_65, t103_68, t103_69, t103_71, t103_74, t103_77, t103_78, t103_81, t103_82, t103_83, t103_84, t103_87, t103_88, t103_91, t103_92, t103_93, t103_96, t103_97, t103_98, t103_99, t103_100, t103_101, t103_104, t103_107, t103_108, t103_111, t103_112, t103_114, t103_115, t103_116, t103_117, t103_120, t103_121, t103_122, t103_125, t103_126, t103_129, t103_130, t103_131, t103_132, t103_133, t103_134, t103_137, t103_138, t103_141, t103_144, t103_145, t103_146, t103_149, t103_152, t103_153, t103_156, t103_157, t103_160, t103_161, t103_164, t103_165, t103_166, t103_167, t103_170, t103_171, t103_174, t103_175, t103_176, t103_179, t103_180, t103_181, t103_184, t103_185, t103_188, t103_189, t103_192, t103_193, t103_196, t103_197, t103_198, t103_199, t103_202, t103_203, t103_204, t103_207, t103_210, t103_211, t103_212, t103_215, t103_216, t103_217, t103_220, t103_221, t103_222, t103_225, t103_226, t103_229, t103_230, t103_233, lk_s, hp_get, hp_set, uH_at, uH_ne, uH_upd, uH_swap, iZ_add, iZ_sub, iZ_mul, iZ_neg, iZ_lt, iZ_le, iZ_eq, iZ_div, iZ_of, ix_Z, gZ_map, gZ_mapI, gZ_map', le_0, le_s, sZ_map, sZ_len, bZ_0, bZ_inj, bZ_t, bZ_f, nr_i, nr_0, nr_1, nr_b, ft_i, ft_b, ft_0, ft_1, zl_0, zl_1, zl_61, zl_65, zl_90, zl_99, zl_126, mF_len, mg_0, mg_1, mg_2, mg_3, mg_4, mg_5, mg_6, mg_7, mg_8, mg_9, mg_10, mg_11, mg_12, mg_13, mg_14, mg_15, mg_16, mg_17, mg_18, mg_19, mg_20, mg_21, mg_22, mg_23, mg_24, mg_25, mg_26, mg_27, mg_28, mg_29, mg_30, mg_31, mg_32, mg_33, mg_34, mg_35, mg_36, mg_37, mg_38, ms_0, ms_1, ms_2, ms_13, ms_14, ms_15, ms_16, ms_21, ms_22, ms_23, ms_24, ms_28, ms_36, ms_37, ms_38, st_at, st_ne, st_st, st_swap, l0, hm, h39, h41, e8, eS, e39, nb, mm, -List.filter_filter, -List.getElem?_map, -List.getD_eq_getElem?_getD]
  · have X := x96n (d + 1) hN hT he (by omega) (by omega)
    have ew : uH w 27 (.inr (8, mF m)) = w := uH_self hm
    refine key false (seg (x 37) (m 4) (m 3)) _ m (fun z => (by cases z)) (fun _ => ⟨rfl, fun r2 e => he (sg_c h4 (by omega) e).2.1⟩) rfl (fun _ _ => rfl) (by omega) h43 rfl (fun res hg => Gx.run 60 X (fun K mm => ?_) hg)
    have nb : vp_nar .boolean (iZ 0) = iZ 0 := nar_of (Or.inl rfl)
    rw [ew]
    simp (disch := first | (refine c1_id ?_; assumption) | (refine c1_st rfl ?_; repeat (first | assumption | refine c1_st rfl ?_)) | omega) [nx_l, nx_r, nx_n, x_st, x_push, x_bin, x_div, x_un, x_dup, x_pop, x_dup2, x_goto, x_ifeq, x_ifne, x_iflt, x_ifge, x_ifgt, x_ifle, x_iceq, x_icne, x_iclt, x_icge, x_icgt, x_icle, x_ifnull, x_ifnonnull, x_ldi, x_lda, x_sti, x_sta, x_iinc, x_gf, x_pf, x_ald, x_ast, x_aln, x_len, x_cl_, x_cv, x_cs, x_rc, x_r0, x_isT, x_oi, x_rv, x_ri, x_ra, Value.category, t103_0, t103_1, t103_4, t103_5, t103_8, t103_9, t103_12, t103_13, t103_14, t103_17, t103_18, t103_21, t103_22, t103_24, t103_27, t103_28, t103_29, t103_32, t103_33, t103_34, t103_37, t103_39, t103_42, t103_43, t103_46, t103_48, t103_51, t103_52, t103_55, t103_56, t103_57, t103_58, t103_61, t103_62, t103_65, t103_68, t103_69, t103_71, t103_74, t103_77, t103_78, t103_81, t103_82, t103_83, t103_84, t103_87, t103_88, t103_91, t103_92, t103_93, t103_96, t103_97, t103_98, t103_99, t103_100, t103_101, t103_104, t103_107, t103_108, t103_111, t103_112, t103_114, t103_115, t103_116, t103_117, t103_120, t103_121, t103_122, t103_125, t103_126, t103_129, t103_130, t103_131, t103_132, t103_133, t103_134, t103_137, t103_138, t103_141, t103_144, t103_145, t103_146, t103_149, t103_152, t103_153, t103_156, t103_157, t103_160, t103_161, t103_164, t103_165, t103_166, t103_167, t103_170, t103_171, t103_174, t103_175, t103_176, t103_179, t103_180, t103_181, t103_184, t103_185, t103_188, t103_189, t103_192, t103_193, t103_196, t103_197, t103_198, t103_199, t103_202, t103_203, t103_204, t103_207, t103_210, t103_211, t103_212, t103_215, t103_216, t103_217, t103_220, t103_221, t103_222, t103_225, t103_226, t103_229, t103_230, t103_233, lk_s, hp_get, hp_set, uH_at, uH_ne, uH_upd, uH_swap, iZ_add, iZ_sub, iZ_mul, iZ_neg, iZ_lt, iZ_le, iZ_eq, iZ_div, iZ_of, ix_Z, gZ_map, gZ_mapI, gZ_map', le_0, le_s, sZ_map, sZ_len, bZ_0, bZ_inj, bZ_t, bZ_f, nr_i, nr_0, nr_1, nr_b, ft_i, ft_b, ft_0, ft_1, zl_0, zl_1, zl_61, zl_65, zl_90, zl_99, zl_126, mF_len, mg_0, mg_1, mg_2, mg_3, mg_4, mg_5, mg_6, mg_7, mg_8, mg_9, mg_10, mg_11, mg_12, mg_13, mg_14, mg_15, mg_16, mg_17, mg_18, mg_19, mg_20, mg_21, mg_22, mg_23, mg_24, mg_25, mg_26, mg_27, mg_28, mg_29, mg_30, mg_31, mg_32, mg_33, mg_34, mg_35, mg_36, mg_37, mg_38, ms_0, ms_1, ms_2, ms_13, ms_14, ms_15, ms_16, ms_21, ms_22, ms_23, ms_24, ms_28, ms_36, ms_37, ms_38, st_at, st_ne, st_st, st_swap, l0, hm, h39, h41, e8, eS, e39, nb, mm, -List.filter_filter, -List.getElem?_map, -List.getD_eq_getElem?_getD]
end LJ
