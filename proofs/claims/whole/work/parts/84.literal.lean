/-! the reference: a literal is read, the method -/

def ksL2 : List Nat := [27, 36, 38, 39, 41, 49]
def mL (m m' : Nat → Int) : Prop := ∀ i, i ≠ 4 → i ≠ 5 → i ≠ 6 → i ≠ 7 → i ≠ 8 → m' i = m i
theorem mL.tr {m m' m'' : Nat → Int} (h : mL m m') (g : mL m' m'') : mL m m'' := fun i a b c d e => (g i a b c d e).trans (h i a b c d e)
def LOk (d N : Nat) (w : Nat → xC) (m : Nat → Int) (x : Nat → List Int) (C : List (Int × List Int)) (u : Bool) (b : Int) (A r1 : List Int) : Prop := ∃ (w' : Nat → xC) (m' : Nat → Int) (x' : Nat → List Int), RO w' m' x' ∧ RI x' ∧ Fr ksL2 w w' ∧ (∀ j, ¬ j ∈ ksL → x' j = x j) ∧ mL m m' ∧ m' 5 = 0 ∧ seg (x 37) (m' 4) (m' 3) = r1 ∧ m 4 ≤ m' 4 ∧ m' 4 ≤ m 3 ∧ RW (adL C (b, A)) (x' 38) (x' 39) (x' 41) ∧ vC (adL C (b, A)) ∧ m' 8 = (adL C (b, A)).length ∧ m' 7 = (flt (adL C (b, A))).length ∧ m' 7 ≤ m' 4 ∧ x' 36 = (ntA A (x 36, u)).1 ∧ m' 6 = bZ (ntA A (x 36, u)).2 ∧ UOK (x' 36) ∧ Xc (d + 4) 103 [.ref 30] (hp w N) (none, hp w' N)
def LBad (d N : Nat) (w : Nat → xC) (m : Nat → Int) (x : Nat → List Int) : Prop := ∃ (w' : Nat → xC) (m' : Nat → Int) (x' : Nat → List Int) (u' : Bool), RO w' m' x' ∧ RI x' ∧ Fr ksL2 w w' ∧ (∀ j, ¬ j ∈ ksL → x' j = x j) ∧ mL m m' ∧ m' 5 = 1 ∧ 0 ≤ m' 4 ∧ m' 4 ≤ m 3 ∧ 0 ≤ m' 8 ∧ m' 8 ≤ 7 ∧ m' 6 = bZ u' ∧ UOK (x' 36) ∧ Xc (d + 4) 103 [.ref 30] (hp w N) (none, hp w' N)
theorem rdL_M {b : Bool} {r r' : List Int} (h1 : b = true → r = 126 :: r') (h2 : b = false → r = r' ∧ ∀ r2, r' ≠ 126 :: r2) : rdL 30 r = (rdM 30 r').map (fun q => ((bZ b, q.1), q.2)) := by
  cases b with
  | true =>
    rw [h1 rfl]
    unfold rdL
    dsimp only
    rw [if_pos rfl]
    rfl
  | false =>
    obtain ⟨e, hn⟩ := h2 rfl
    rw [e]
    cases r' with
    | nil => rfl
    | cons c r' =>
      unfold rdL
      dsimp only
      rw [if_neg (fun z => hn r' (by rw [z]))]
      rfl
section LK
variable {w : Nat → xC} {N : Nat} {m : Nat → Int} {x : Nat → List Int} {C : List (Int × List Int)} {lv : xL}
theorem r103_129 (d : Nat) {w' : Nat → xC} (hm : w 27 = .inr (8, mF m)) (fr : Int) (hN : 53 ≤ N) (hc : c1 lv) (l0 : x_lk lv 0 = some (.ref 30)) (l1 : x_lk lv 1 = some (.int (iZ fr))) (X : Xc (d + 3) 102 [.ref 30, .int (iZ (fr + 1)), .int (iZ (m 7)), .int (iZ 0)] (hp w N) (none, hp w' N)) : ∀ res, Gx q_k103 (d + 3) 174 (lv, [], hp w' N) res → Gx q_k103 (d + 3) 129 (lv, [], hp w N) res := fun res hg => by
  refine Gx.run 40 X (fun K mm => ?_) hg
  simp (disch := first | (refine c1_id ?_; assumption) | (refine c1_st rfl ?_; repeat (first | assumption | refine c1_st rfl ?_)) | omega) [nx_l, nx_r, nx_n, x_st, x_push, x_bin, x_div, x_un, x_dup, x_pop, x_dup2, x_goto, x_ifeq, x_ifne, x_iflt, x_ifge, x_ifgt, x_ifle, x_iceq, x_icne, x_iclt, x_icge, x_icgt, x_icle, x_ifnull, x_ifnonnull, x_ldi, x_lda, x_sti, x_sta, x_iinc, x_gf, x_pf, x_ald, x_ast, x_aln, x_len, x_cl_, x_cv, x_cs, x_rc, x_r0, x_isT, x_oi, x_rv, x_ri, x_ra, Value.category, t103_0, t103_1, t103_4, t103_5, t103_8, t103_9, t103_12, t103_13, t103_14, t103_17, t103_18, t103_21, t103_22, t103_24, t103_27, t103_28, t103_29, t103_32, t103_33, t103_34, t103_37, t103_39, t103_42, t103_43, t103_46, t103_48, t103_51, t103_52, t103_55, t103_56, t103_57, t103_58, t103_61, t103_62, t103_65, t103_68, t103_69, t103_71, t103_74, t103_77, t103_78, t103_81, t103_82, t103_83, t103_84, t103_87, t103_88, t103_91, t103_92, t103_93, t103_96, t103_97, t103_98, t103_99, t103_100, t103_101, t103_104, t103_107, t103_108, t103_111, t103_112, t103_114, t103_115, t103_116, t103_117, t103_120, t103_121, t103_122, t103_125, t103_126, t103_129, t103_130, t103_131, t103_132, t103_133, t103_134, t103_137, t103_138, t103_141, t103_144, t103_145, t103_146, t103_149, t103_152, t103_153, t103_156, t103_157, t103_160, t103_161, t103_164, t103_165, t103_166, t103_167, t103_170, t103_171, t103_174, t103_175, t103_176, t103_179, t103_180, t103_181, t103_184, t103_185, t103_188, t103_189, t103_192, t103_193, t103_196, t103_197, t103_198, t103_199, t103_202, t103_203, t103_204, t103_207, t103_210, t103_211, t103_212, t103_215, t103_216, t103_217, t103_220, t103_221, t103_222, t103_225, t103_226, t103_229, t103_230, t103_233, lk_s, hp_get, hp_set, uH_at, uH_ne, uH_upd, uH_swap, iZ_add, iZ_sub, iZ_mul, iZ_neg, iZ_lt, iZ_le, iZ_eq, iZ_div, iZ_of, ix_Z, gZ_map, gZ_mapI, gZ_map', le_0, le_s, sZ_map, sZ_len, bZ_0, bZ_inj, bZ_t, bZ_f, nr_i, nr_0, nr_1, nr_b, ft_i, ft_b, ft_0, ft_1, zl_0, zl_1, zl_61, zl_65, zl_90, zl_99, zl_126, mF_len, mg_0, mg_1, mg_2, mg_3, mg_4, mg_5, mg_6, mg_7, mg_8, mg_9, mg_10, mg_11, mg_12, mg_13, mg_14, mg_15, mg_16, mg_17, mg_18, mg_19, mg_20, mg_21, mg_22, mg_23, mg_24, mg_25, mg_26, mg_27, mg_28, mg_29, mg_30, mg_31, mg_32, mg_33, mg_34, mg_35, mg_36, mg_37, mg_38, ms_0, ms_1, ms_2, ms_13, ms_14, ms_15, ms_16, ms_21, ms_22, ms_23, ms_24, ms_28, ms_36, ms_37, ms_38, st_at, st_ne, st_st, st_swap, l0, l1, hm, mm, -List.filter_filter, -List.getElem?_map, -List.getD_eq_getElem?_getD]
theorem r103_164 (d : Nat) {w' : Nat → xC} (hm : w 27 = .inr (8, mF m)) (fr : Int) (hN : 53 ≤ N) (hc : c1 lv) (l0 : x_lk lv 0 = some (.ref 30)) (l1 : x_lk lv 1 = some (.int (iZ fr))) (X : Xc (d + 3) 102 [.ref 30, .int (iZ fr), .int (iZ (m 7)), .int (iZ 1)] (hp w N) (none, hp w' N)) : ∀ res, Gx q_k103 (d + 3) 174 (lv, [], hp w' N) res → Gx q_k103 (d + 3) 164 (lv, [], hp w N) res := fun res hg => by
  refine Gx.run 40 X (fun K mm => ?_) hg
  simp (disch := first | (refine c1_id ?_; assumption) | (refine c1_st rfl ?_; repeat (first | assumption | refine c1_st rfl ?_)) | omega) [nx_l, nx_r, nx_n, x_st, x_push, x_bin, x_div, x_un, x_dup, x_pop, x_dup2, x_goto, x_ifeq, x_ifne, x_iflt, x_ifge, x_ifgt, x_ifle, x_iceq, x_icne, x_iclt, x_icge, x_icgt, x_icle, x_ifnull, x_ifnonnull, x_ldi, x_lda, x_sti, x_sta, x_iinc, x_gf, x_pf, x_ald, x_ast, x_aln, x_len, x_cl_, x_cv, x_cs, x_rc, x_r0, x_isT, x_oi, x_rv, x_ri, x_ra, Value.category, t103_0, t103_1, t103_4, t103_5, t103_8, t103_9, t103_12, t103_13, t103_14, t103_17, t103_18, t103_21, t103_22, t103_24, t103_27, t103_28, t103_29, t103_32, t103_33, t103_34, t103_37, t103_39, t103_42, t103_43, t103_46, t103_48, t103_51, t103_52, t103_55, t103_56, t103_57, t103_58, t103_61, t103_62, t103_65, t103_68, t103_69, t103_71, t103_74, t103_77, t103_78, t103_81, t103_82, t103_83, t103_84, t103_87, t103_88, t103_91, t103_92, t103_93, t103_96, t103_97, t103_98, t103_99, t103_100, t103_101, t103_104, t103_107, t103_108, t103_111, t103_112, t103_114, t103_115, t103_116, t103_117, t103_120, t103_121, t103_122, t103_125, t103_126, t103_129, t103_130, t103_131, t103_132, t103_133, t103_134, t103_137, t103_138, t103_141, t103_144, t103_145, t103_146, t103_149, t103_152, t103_153, t103_156, t103_157, t103_160, t103_161, t103_164, t103_165, t103_166, t103_167, t103_170, t103_171, t103_174, t103_175, t103_176, t103_179, t103_180, t103_181, t103_184, t103_185, t103_188, t103_189, t103_192, t103_193, t103_196, t103_197, t103_198, t103_199, t103_202, t103_203, t103_204, t103_207, t103_210, t103_211, t103_212, t103_215, t103_216, t103_217, t103_220, t103_221, t103_222, t103_225, t103_226, t103_229, t103_230, t103_233, lk_s, hp_get, hp_set, uH_at, uH_ne, uH_upd, uH_swap, iZ_add, iZ_sub, iZ_mul, iZ_neg, iZ_lt, iZ_le, iZ_eq, iZ_div, iZ_of, ix_Z, gZ_map, gZ_mapI, gZ_map', le_0, le_s, sZ_map, sZ_len, bZ_0, bZ_inj, bZ_t, bZ_f, nr_i, nr_0, nr_1, nr_b, ft_i, ft_b, ft_0, ft_1, zl_0, zl_1, zl_61, zl_65, zl_90, zl_99, zl_126, mF_len, mg_0, mg_1, mg_2, mg_3, mg_4, mg_5, mg_6, mg_7, mg_8, mg_9, mg_10, mg_11, mg_12, mg_13, mg_14, mg_15, mg_16, mg_17, mg_18, mg_19, mg_20, mg_21, mg_22, mg_23, mg_24, mg_25, mg_26, mg_27, mg_28, mg_29, mg_30, mg_31, mg_32, mg_33, mg_34, mg_35, mg_36, mg_37, mg_38, ms_0, ms_1, ms_2, ms_13, ms_14, ms_15, ms_16, ms_21, ms_22, ms_23, ms_24, ms_28, ms_36, ms_37, ms_38, st_at, st_ne, st_st, st_swap, l0, l1, hm, mm, -List.filter_filter, -List.getElem?_map, -List.getD_eq_getElem?_getD]
/-- noted, ended: a literal that is bad -/
theorem tailB (d : Nat) (hN : 53 ≤ N) (p : Bool) (h : RO w m x) (hI : RI x) (hW : RW C (x 38) (x 39) (x 41)) (hv : vC C) (hc6 : C.length ≤ 6) (e8 : m 8 = C.length) (u : Bool) (hU : UOK (x 36)) (h6 : m 6 = bZ u) (h7' : m 7 ≤ 60) (h7 : ((flt C).length : Int) + (if p = true then 0 else 1) ≤ m 7) (hr : ∀ i, ((flt C).length : Int) ≤ i → i < m 7 → 0 ≤ gZ (x 38) i ∧ gZ (x 38) i < 204) (hc : c1 lv) (l0 : x_lk lv 0 = some (.ref 30)) (l1 : x_lk lv 1 = some (.int (iZ (flt C).length))) :
    ∃ (w' : Nat → xC) (m' : Nat → Int) (x' : Nat → List Int) (u' : Bool), RO w' m' x' ∧ RI x' ∧ Fr [27, 36, 39] w w' ∧ (∀ j, j ≠ 36 → j ≠ 39 → x' j = x j) ∧ (∀ i, i ≠ 6 → i ≠ 7 → i ≠ 8 → m' i = m i) ∧ 0 ≤ m' 8 ∧ m' 8 ≤ 7 ∧ m' 6 = bZ u' ∧ UOK (x' 36) ∧ Gx q_k103 (d + 3) (if p = true then 164 else 129) (lv, [], hp w N) (none, hp w' N) := by
  have hfr : ∀ q : Bool, q = p → ∃ (w1 : Nat → xC) (m1 : Nat → Int) (x1 : Nat → List Int) (u' : Bool), RO w1 m1 x1 ∧ Fr [27, 36] w w1 ∧ (∀ j, j ≠ 36 → x1 j = x j) ∧ (∀ i, i ≠ 6 → m1 i = m i) ∧ m1 6 = bZ u' ∧ UOK (x1 36) ∧ ∀ res, Gx q_k103 (d + 3) 174 (lv, [], hp w1 N) res → Gx q_k103 (d + 3) (if p = true then 164 else 129) (lv, [], hp w N) res := by
    intro q hq
    cases p with
    | true =>
      rw [if_pos rfl] at h7
      obtain ⟨w1, m1, x1, a1, a2, a3, a4, a5, a6, a7, a8⟩ := A102r (d + 1) hN h u hU h6 (flt C).length (m 7) true (by omega) (by omega) (by omega) (fun i i0 i1 => hr i (by omega) i1)
      rw [if_pos rfl]
      exact ⟨w1, m1, x1, _, a1, a2, a3, a4, a6, a7, r103_164 d h.1 _ hN hc l0 l1 a8⟩
    | false =>
      rw [if_neg (by decide)] at h7
      obtain ⟨w1, m1, x1, a1, a2, a3, a4, a5, a6, a7, a8⟩ := A102r (d + 1) hN h u hU h6 ((flt C).length + 1) (m 7) false (by omega) (by omega) (by omega) (fun i i0 i1 => hr i (by omega) i1)
      rw [if_neg (by decide)]
      exact ⟨w1, m1, x1, _, a1, a2, a3, a4, a6, a7, r103_129 d h.1 _ hN hc l0 l1 a8⟩
  obtain ⟨w1, m1, x1, u', a1, a2, a3, a4, a5, a6, a7⟩ := hfr p rfl
  have y7 : m1 7 = m 7 := a4 7 (by decide)
  have y8 : m1 8 = m 8 := a4 8 (by decide)
  have e38 := a3 38 (by decide)
  have e39 := a3 39 (by decide)
  have e41 := a3 41 (by decide)
  have I1 := hI.mv (a3 45 (by decide)) e41 (a3 28 (by decide)) e39
  have hge : ((flt C).length : Int) ≤ m 7 := by
    cases p
    · rw [if_neg (by decide)] at h7
      omega
    · rw [if_pos rfl] at h7
      omega
  obtain ⟨w2, m2, x2, tw, b1, b2, b3, b4, b5, b6, b7, b8, b9, b10⟩ := T174 (C := C) (d + 2) hN a1 I1 (by rw [e38, e39, e41]; exact hW) hc6 (by omega) (by omega) (by omega) (fun i i0 i1 => by
    rw [e38]
    by_cases hi : ((flt C).length : Int) ≤ i
    · have := hr i hi (by omega)
      omega
    · have := hW.1 i.toNat (by omega)
      rw [show ((i.toNat : Nat) : Int) = i by omega] at this
      rw [this]
      obtain ⟨y, hy, hz⟩ := flt_of (getD_mem (l := flt C) (i := i.toNat) (by omega))
      have := (hv y hy).2 _ hz
      omega) hc l0
  refine ⟨w2, m2, x2, u', b1, b2, (a2.sub (fun j hj => by
    simp only [List.mem_cons, List.not_mem_nil, or_false] at hj ⊢
    omega)).tr (b3.sub (fun j hj => by
    simp only [List.mem_cons, List.not_mem_nil, or_false] at hj ⊢
    omega)), fun j j1 j2 => (b4 j j2).trans (a3 j j1), fun i i1 i2 i3 => (b5 i i2 i3).trans (a4 i i1), ?_, ?_, by rw [b5 6 (by decide) (by decide)]; exact a5, by rw [b4 36 (by decide)]; exact a6, a7 _ b10⟩
  · rw [b8]
    split <;> omega
  · rw [b8]
    split <;> omega
/-- noted, ended: a literal that is right -/
theorem tailK (d : Nat) (hN : 53 ≤ N) (p : Bool) (h : RO w m x) (hI : RI x) (hW : RW C (x 38) (x 39) (x 41)) (hv : vC C) (hc6 : C.length ≤ 6) (e8 : m 8 = C.length) (u : Bool) (hU : UOK (x 36)) (h6 : m 6 = bZ u) (b : Int) (A : List Int) (hb01 : b = 0 ∨ b = 1) (hsg : ∀ s ∈ A, sgR s ∨ s = 99) (hp99 : p = false → ∃ A', A = 99 :: A') (hA : ∀ j : Nat, j < A.length → gZ (x 38) ((flt C).length + j) = A.getD j 0) (hb : gZ (x 41) C.length = b) (e7 : m 7 = (flt C).length + A.length) (h7' : m 7 ≤ 60) (hc : c1 lv) (l0 : x_lk lv 0 = some (.ref 30)) (l1 : x_lk lv 1 = some (.int (iZ (flt C).length))) :
    ∃ (w' : Nat → xC) (m' : Nat → Int) (x' : Nat → List Int), RO w' m' x' ∧ RI x' ∧ Fr [27, 36, 39] w w' ∧ (∀ j, j ≠ 36 → j ≠ 39 → x' j = x j) ∧ (∀ i, i ≠ 6 → i ≠ 7 → i ≠ 8 → m' i = m i) ∧ RW (adL C (b, A)) (x' 38) (x' 39) (x' 41) ∧ vC (adL C (b, A)) ∧ m' 8 = (adL C (b, A)).length ∧ m' 7 = (flt (adL C (b, A))).length ∧ m' 7 ≤ m 7 ∧ x' 36 = (ntA A (x 36, u)).1 ∧ m' 6 = bZ (ntA A (x 36, u)).2 ∧ UOK (x' 36) ∧ Gx q_k103 (d + 3) (if p = true then 164 else 129) (lv, [], hp w N) (none, hp w' N) := by
  have n38 : (x 38).length = 600 := (h.2 38 (by decide) (by decide)).2
  have hvx : vC [(b, A)] := fun y hy => by
    rw [List.mem_singleton] at hy
    subst hy
    refine ⟨hb01, fun s hs => ?_⟩
    rcases hsg s hs with e | e
    · rcases e with e | e <;> omega
    · omega
  have hrow : ∀ i, ((flt C).length : Int) ≤ i → i < m 7 → 0 ≤ gZ (x 38) i ∧ gZ (x 38) i < 204 := fun i i0 i1 => by
    have := hA (i - (flt C).length).toNat (by omega)
    rw [show ((flt C).length : Int) + (((i - (flt C).length).toNat : Nat) : Int) = i by omega] at this
    rw [this]
    rcases hsg _ (getD_mem (l := A) (i := (i - (flt C).length).toNat) (by omega)) with e | e
    · rcases e with e | e <;> omega
    · omega
  have hfr : ∀ q : Bool, q = p → ∃ (w1 : Nat → xC) (m1 : Nat → Int) (x1 : Nat → List Int), RO w1 m1 x1 ∧ Fr [27, 36] w w1 ∧ (∀ j, j ≠ 36 → x1 j = x j) ∧ (∀ i, i ≠ 6 → m1 i = m i) ∧ x1 36 = (ntA A (x 36, u)).1 ∧ m1 6 = bZ (ntA A (x 36, u)).2 ∧ UOK (x1 36) ∧ ∀ res, Gx q_k103 (d + 3) 174 (lv, [], hp w1 N) res → Gx q_k103 (d + 3) (if p = true then 164 else 129) (lv, [], hp w N) res := by
    intro q hq
    cases p with
    | true =>
      obtain ⟨w1, m1, x1, a1, a2, a3, a4, a5, a6, a7, a8⟩ := A102r (d + 1) hN h u hU h6 (flt C).length (m 7) true (by omega) (by omega) (by omega) hrow
      have es : seg (x 38) (flt C).length (m 7) = A := by
        rw [e7]
        exact seg_of (by omega) (by omega) hA
      rw [if_pos rfl, es] at a5 a6
      rw [if_pos rfl]
      exact ⟨w1, m1, x1, a1, a2, a3, a4, a5, a6, a7, r103_164 d h.1 _ hN hc l0 l1 a8⟩
    | false =>
      obtain ⟨A', rfl⟩ := hp99 rfl
      simp only [List.length_cons] at e7
      obtain ⟨w1, m1, x1, a1, a2, a3, a4, a5, a6, a7, a8⟩ := A102r (d + 1) hN h u hU h6 ((flt C).length + 1) (m 7) false (by omega) (by omega) (by omega) (fun i i0 i1 => hrow i (by omega) i1)
      have es : seg (x 38) ((flt C).length + 1) (m 7) = A' := by
        rw [show m 7 = ((flt C).length : Int) + 1 + (A'.length : Int) by omega]
        refine seg_of (by omega) (by omega) (fun j hj => ?_)
        have := hA (j + 1) (by simp only [List.length_cons]; omega)
        rw [show ((flt C).length : Int) + ((j + 1 : Nat) : Int) = (flt C).length + 1 + (j : Int) by omega] at this
        exact this
      have en : ntA (99 :: A') (x 36, u) = ntL A' (x 36, u) := by
        show ntL A' (nt1 5 99 (x 36, u)) = _
        have : nt1 5 99 (x 36, u) = (x 36, u) := if_neg (by decide)
        rw [this]
      rw [if_neg (by decide), es] at a5 a6
      rw [if_neg (by decide), en]
      exact ⟨w1, m1, x1, a1, a2, a3, a4, a5, a6, a7, r103_129 d h.1 _ hN hc l0 l1 a8⟩
  obtain ⟨w1, m1, x1, a1, a2, a3, a4, a5, a6, a7, a8⟩ := hfr p rfl
  have y7 : m1 7 = m 7 := a4 7 (by decide)
  have y8 : m1 8 = m 8 := a4 8 (by decide)
  have e38 := a3 38 (by decide)
  have e39 := a3 39 (by decide)
  have e41 := a3 41 (by decide)
  have I1 := hI.mv (a3 45 (by decide)) e41 (a3 28 (by decide)) e39
  obtain ⟨w2, m2, x2, b1, b2, b3, b4, b5, b6, b7, b8, b9, b10, b11⟩ := T174k (C := C) (d + 2) hN a1 I1 (by rw [e38, e39, e41]; exact hW) hv hc6 (by omega) b A hvx (by rw [e38]; exact hA) (by rw [e41]; exact hb) (by omega) (by omega) hc l0
  exact ⟨w2, m2, x2, b1, b2, (a2.sub (fun j hj => by
    simp only [List.mem_cons, List.not_mem_nil, or_false] at hj ⊢
    omega)).tr (b3.sub (fun j hj => by
    simp only [List.mem_cons, List.not_mem_nil, or_false] at hj ⊢
    omega)), fun j j1 j2 => (b4 j j2).trans (a3 j j1), fun i i1 i2 i3 => (b5 i i2 i3).trans (a4 i i1), b6, b7, b8, b9, by omega, by rw [b4 36 (by decide)]; exact a5, by rw [b5 6 (by decide) (by decide)]; exact a6, by rw [b4 36 (by decide)]; exact a7, a8 _ b11⟩
set_option maxHeartbeats 2000000 in
theorem m103 (d : Nat) (hN : 53 ≤ N) (h : RO w m x) (hI : RI x) (hW : RW C (x 38) (x 39) (x 41)) (hv : vC C) (hc6 : C.length ≤ 6) (e8 : m 8 = C.length) (e7 : m 7 = (flt C).length) (u : Bool) (hU : UOK (x 36)) (h6 : m 6 = bZ u) (h5 : m 5 = 0) (hd : ∀ i, 0 ≤ i → i < m 3 → 0 ≤ gZ (x 37) i ∧ gZ (x 37) i < 128) (h4 : 0 ≤ m 4) (h43 : m 4 ≤ m 3) (h3 : m 3 ≤ 60) (h74 : m 7 ≤ m 4) :
    (∀ b A r1, rdL 30 (seg (x 37) (m 4) (m 3)) = some ((b, A), r1) → LOk d N w m x C u b A r1) ∧ (rdL 30 (seg (x 37) (m 4) (m 3)) = none → LBad d N w m x) := by
  have n37 : (x 37).length = 60 := (h.2 37 (by decide) (by decide)).2
  obtain ⟨b, r', w1, m1, x1, lv1, hb1, hb2, R1, I1, F1, e1, k1, k4, k4', hs1, q1, q2, c1_, p0, p1, p2, g0⟩ := B103 d hN h hI hc6 e8 (by rw [hW.2.1 _ (Nat.le_refl _), stC_all, e7]) hd h4 h43 h3 (by omega) h74
  rw [rdL_M hb1 hb2]
  have y3 : m1 3 = m 3 := k1 3 (by decide)
  have y5 : m1 5 = m 5 := k1 5 (by decide)
  have y6 : m1 6 = m 6 := k1 6 (by decide)
  have y7 : m1 7 = m 7 := k1 7 (by decide)
  have y8 : m1 8 = m 8 := k1 8 (by decide)
  have e37 := e1 37 (by decide)
  have W1 : RW C (x1 38) (x1 39) (x1 41) := hW.cp (fun j hj => by rw [e1 38 (by decide)]) (fun k hk => by rw [e1 39 (by decide)]) (fun k hk => q1 k (by omega) (by omega))
  have U1 : UOK (x1 36) := by rw [e1 36 (by decide)]; exact hU
  have H := A100r d hN R1 (by rw [e37, y3]; exact hd) (by omega) (by omega) (by omega) (by omega) (by omega) (by omega)
  rw [e37, y3, hs1] at H
  have hb01 : bZ b = 0 ∨ bZ b = 1 := by
    cases b
    · exact Or.inl rfl
    · exact Or.inr rfl
  have FL1 : Fr ksL2 w w1 := F1.sub (fun j hj => by
    unfold ksL2
    simp only [List.mem_cons, List.not_mem_nil, or_false] at hj ⊢
    omega)
  have XL1 : ∀ j, ¬ j ∈ ksL → x1 j = x j := fun j hj => e1 j (fun z => hj (by rw [z]; decide))
  have ML1 : mL m m1 := fun i i4 _ _ _ _ => k1 i i4
  have kR : ∀ j, j ∈ ksR → j ∈ ksL2 := fun j hj => by
    unfold ksR at hj
    unfold ksL2
    simp only [List.mem_cons, List.not_mem_nil, or_false] at hj ⊢
    omega
  have kT : ∀ j, j ∈ ([27, 36, 39] : List Nat) → j ∈ ksL2 := fun j hj => by
    unfold ksL2
    simp only [List.mem_cons, List.not_mem_nil, or_false] at hj ⊢
    omega
  have nL : ∀ j, ¬ j ∈ ksL → j ≠ 36 ∧ j ≠ 38 ∧ j ≠ 39 ∧ j ≠ 41 ∧ j ≠ 49 := fun j hj => by
    unfold ksL at hj
    simp only [List.mem_cons, List.not_mem_nil, or_false, not_or] at hj
    exact hj
  have g57 : ∀ (w2 : Nat → xC), Xc (d + 3) 100 [.ref 30] (hp w1 N) (none, hp w2 N) → ∀ res, Gx q_k103 (d + 3) 61 (lv1, [], hp w2 N) res → Gx q_k103 (d + 3) 0 (lv_args 0 [.ref 30], [], hp w N) res := fun w2 X res hg => by
    have hmw := R1.1
    refine g0 res (Gx.run 20 X (fun K mm => ?_) hg)
    simp (disch := first | (refine c1_id ?_; assumption) | (refine c1_st rfl ?_; repeat (first | assumption | refine c1_st rfl ?_)) | omega) [nx_l, nx_r, nx_n, x_st, x_push, x_bin, x_div, x_un, x_dup, x_pop, x_dup2, x_goto, x_ifeq, x_ifne, x_iflt, x_ifge, x_ifgt, x_ifle, x_iceq, x_icne, x_iclt, x_icge, x_icgt, x_icle, x_ifnull, x_ifnonnull, x_ldi, x_lda, x_sti, x_sta, x_iinc, x_gf, x_pf, x_ald, x_ast, x_aln, x_len, x_cl_, x_cv, x_cs, x_rc, x_r0, x_isT, x_oi, x_rv, x_ri, x_ra, Value.category, t103_0, t103_1, t103_4, t103_5, t103_8, t103_9, t103_12, t103_13, t103_14, t103_17, t103_18, t103_21, t103_22, t103_24, t103_27, t103_28, t103_29, t103_32, t103_33, t103_34, t103_37, t103_39, t103_42, t103_43, t103_46, t103_48, t103_51, t103_52, t103_55, t103_56, t103_57, t103_58, t103_61, t103_62, t103_65, t103_68, t103_69, t103_71, t103_74, t103_77, t103_78, t103_81, t103_82, t103_83, t103_84, t103_87, t103_88, t103_91, t103_92, t103_93, t103_96, t103_97, t103_98, t103_99, t103_100, t103_101, t103_104, t103_107, t103_108, t103_111, t103_112, t103_114, t103_115, t103_116, t103_117, t103_120, t103_121, t103_122, t103_125, t103_126, t103_129, t103_130, t103_131, t103_132, t103_133, t103_134, t103_137, t103_138, t103_141, t103_144, t103_145, t103_146, t103_149, t103_152, t103_153, t103_156, t103_157, t103_160, t103_161, t103_164, t103_165, t103_166, t103_167, t103_170, t103_171, t103_174, t103_175, t103_176, t103_179, t103_180, t103_181, t103_184, t103_185, t103_188, t103_189, t103_192, t103_193, t103_196, t103_197, t103_198, t103_199, t103_202, t103_203, t103_204, t103_207, t103_210, t103_211, t103_212, t103_215, t103_216, t103_217, t103_220, t103_221, t103_222, t103_225, t103_226, t103_229, t103_230, t103_233, lk_s, hp_get, hp_set, uH_at, uH_ne, uH_upd, uH_swap, iZ_add, iZ_sub, iZ_mul, iZ_neg, iZ_lt, iZ_le, iZ_eq, iZ_div, iZ_of, ix_Z, gZ_map, gZ_mapI, gZ_map', le_0, le_s, sZ_map, sZ_len, bZ_0, bZ_inj, bZ_t, bZ_f, nr_i, nr_0, nr_1, nr_b, ft_i, ft_b, ft_0, ft_1, zl_0, zl_1, zl_61, zl_65, zl_90, zl_99, zl_126, mF_len, mg_0, mg_1, mg_2, mg_3, mg_4, mg_5, mg_6, mg_7, mg_8, mg_9, mg_10, mg_11, mg_12, mg_13, mg_14, mg_15, mg_16, mg_17, mg_18, mg_19, mg_20, mg_21, mg_22, mg_23, mg_24, mg_25, mg_26, mg_27, mg_28, mg_29, mg_30, mg_31, mg_32, mg_33, mg_34, mg_35, mg_36, mg_37, mg_38, ms_0, ms_1, ms_2, ms_13, ms_14, ms_15, ms_16, ms_21, ms_22, ms_23, ms_24, ms_28, ms_36, ms_37, ms_38, st_at, st_ne, st_st, st_swap, p0, hmw, mm, -List.filter_filter, -List.getElem?_map, -List.getD_eq_getElem?_getD]
  have fin : ∀ (w' : Nat → xC) (m' : Nat → Int) (x' : Nat → List Int), RO w' m' x' → Fr ksL2 w w' → Gx q_k103 (d + 3) 0 (lv_args 0 [.ref 30], [], hp w N) (none, hp w' N) → Xc (d + 4) 103 [.ref 30] (hp w N) (none, hp w' N) := fun w' m' x' a f g => Xc.of rfl (by simp [lg_sl, Value.category]) g (h.le a (fun j hj => by
    rw [f j (by
      unfold ksL2
      simp only [List.mem_cons, List.not_mem_nil, or_false]
      omega)]
    exact Nat.le_refl _))
  have cells : ∀ (x2 : Nat → List Int), (∀ j, j ≠ 38 → j ≠ 49 → x2 j = x1 j) → (∀ j, 0 ≤ j → j < m1 7 → gZ (x2 38) j = gZ (x1 38) j) → RW C (x2 38) (x2 39) (x2 41) := fun x2 a c => W1.cp (fun j hj => c j (by omega) (by omega)) (fun k hk => by rw [a 39 (by decide) (by decide)]) (fun k hk => by rw [a 41 (by decide) (by decide)])
  have l1f : x_lk lv1 1 = some (.int (iZ ((flt C).length : Int))) := by rw [p1, e7]
  have sg204 : ∀ s, sgR s → 0 ≤ s ∧ s < 204 := fun s hs => by
    rcases hs with hs | hs <;> omega
  cases hT : rdT 30 r' with
  | none =>
    have eM : rdM 30 r' = none := by
      unfold rdM
      rw [hT]
    rw [eM]
    refine ⟨fun b A r1 z => (by cases z), fun _ => ?_⟩
    obtain ⟨w2, m2, x2, a1, a2, a3, a4, a5, a6, a7, a8, a9, a10, a11, a12⟩ := H.2 hT
    have z3 : m2 3 = m1 3 := a4 3 (by decide) (by decide) (by decide)
    have z6 : m2 6 = m1 6 := a4 6 (by decide) (by decide) (by decide)
    have z8 : m2 8 = m1 8 := a4 8 (by decide) (by decide) (by decide)
    have W2 := cells x2 a3 a10
    have I2 := I1.mv (a3 45 (by decide) (by decide)) (a3 41 (by decide) (by decide)) (a3 28 (by decide) (by decide)) (a3 39 (by decide) (by decide))
    obtain ⟨w3, m3, x3, u', b1, b2, b3, b4, b5, b6, b7, b8, b9, b10⟩ := tailB d hN true a1 I2 W2 hv hc6 (by omega) u (by rw [a3 36 (by decide) (by decide)]; exact U1) (by omega) (by omega) (by rw [if_pos rfl]; omega) (fun i i0 i1 => sg204 _ (a11 i (by omega) i1)) c1_ p0 l1f
    rw [if_pos rfl] at b10
    have hm2 := a1.1
    have e5 : st_ m2 5 1 = m2 := st_self a5
    have ew : uH w2 27 (.inr (8, mF m2)) = w2 := uH_self hm2
    have g61 : Gx q_k103 (d + 3) 61 (lv1, [], hp w2 N) (none, hp w3 N) := by
      refine Gx.run 40 Cs.tt (fun K _ => ?_) b10
      simp (disch := first | (refine c1_id ?_; assumption) | (refine c1_st rfl ?_; repeat (first | assumption | refine c1_st rfl ?_)) | omega) [nx_l, nx_r, nx_n, x_st, x_push, x_bin, x_div, x_un, x_dup, x_pop, x_dup2, x_goto, x_ifeq, x_ifne, x_iflt, x_ifge, x_ifgt, x_ifle, x_iceq, x_icne, x_iclt, x_icge, x_icgt, x_icle, x_ifnull, x_ifnonnull, x_ldi, x_lda, x_sti, x_sta, x_iinc, x_gf, x_pf, x_ald, x_ast, x_aln, x_len, x_cl_, x_cv, x_cs, x_rc, x_r0, x_isT, x_oi, x_rv, x_ri, x_ra, Value.category, t103_0, t103_1, t103_4, t103_5, t103_8, t103_9, t103_12, t103_13, t103_14, t103_17, t103_18, t103_21, t103_22, t103_24, t103_27, t103_28, t103_29, t103_32, t103_33, t103_34, t103_37, t103_39, t103_42, t103_43, t103_46, t103_48, t103_51, t103_52, t103_55, t103_56, t103_57, t103_58, t103_61, t103_62, t103_65, t103_68, t103_69, t103_71, t103_74, t103_77, t103_78, t103_81, t103_82, t103_83, t103_84, t103_87, t103_88, t103_91, t103_92, t103_93, t103_96, t103_97, t103_98, t103_99, t103_100, t103_101, t103_104, t103_107, t103_108, t103_111, t103_112, t103_114, t103_115, t103_116, t103_117, t103_120, t103_121, t103_122, t103_125, t103_126, t103_129, t103_130, t103_131, t103_132, t103_133, t103_134, t103_137, t103_138, t103_141, t103_144, t103_145, t103_146, t103_149, t103_152, t103_153, t103_156, t103_157, t103_160, t103_161, t103_164, t103_165, t103_166, t103_167, t103_170, t103_171, t103_174, t103_175, t103_176, t103_179, t103_180, t103_181, t103_184, t103_185, t103_188, t103_189, t103_192, t103_193, t103_196, t103_197, t103_198, t103_199, t103_202, t103_203, t103_204, t103_207, t103_210, t103_211, t103_212, t103_215, t103_216, t103_217, t103_220, t103_221, t103_222, t103_225, t103_226, t103_229, t103_230, t103_233, lk_s, hp_get, hp_set, uH_at, uH_ne, uH_upd, uH_swap, iZ_add, iZ_sub, iZ_mul, iZ_neg, iZ_lt, iZ_le, iZ_eq, iZ_div, iZ_of, ix_Z, gZ_map, gZ_mapI, gZ_map', le_0, le_s, sZ_map, sZ_len, bZ_0, bZ_inj, bZ_t, bZ_f, nr_i, nr_0, nr_1, nr_b, ft_i, ft_b, ft_0, ft_1, zl_0, zl_1, zl_61, zl_65, zl_90, zl_99, zl_126, mF_len, mg_0, mg_1, mg_2, mg_3, mg_4, mg_5, mg_6, mg_7, mg_8, mg_9, mg_10, mg_11, mg_12, mg_13, mg_14, mg_15, mg_16, mg_17, mg_18, mg_19, mg_20, mg_21, mg_22, mg_23, mg_24, mg_25, mg_26, mg_27, mg_28, mg_29, mg_30, mg_31, mg_32, mg_33, mg_34, mg_35, mg_36, mg_37, mg_38, ms_0, ms_1, ms_2, ms_13, ms_14, ms_15, ms_16, ms_21, ms_22, ms_23, ms_24, ms_28, ms_36, ms_37, ms_38, st_at, st_ne, st_st, st_swap, p0, hm2, a5, e5, ew, -List.filter_filter, -List.getElem?_map, -List.getD_eq_getElem?_getD]
    have FF : Fr ksL2 w w3 := (FL1.tr (a2.sub kR)).tr (b3.sub kT)
    have v3 := b5 3 (by decide) (by decide) (by decide)
    have v4 := b5 4 (by decide) (by decide) (by decide)
    have v5 := b5 5 (by decide) (by decide) (by decide)
    exact ⟨w3, m3, x3, u', b1, b2, FF, fun j hj => (b4 j (nL j hj).1 (nL j hj).2.2.1).trans ((a3 j (nL j hj).2.1 (nL j hj).2.2.2.2).trans (XL1 j hj)), fun i i4 i5 i6 i7 i8 => (b5 i i6 i7 i8).trans ((a4 i i4 i5 i7).trans (ML1 i i4 i5 i6 i7 i8)), by omega, by omega, by omega, b6, b7, b8, b9, fin w3 m3 x3 b1 FF (g57 w2 a12 _ g61)⟩
  | some q =>
    obtain ⟨t, r2⟩ := q
    obtain ⟨w2, m2, x2, a1, a2, a3, a4, a5, a6, a7, a8, a9, a10, a11, a12, a13⟩ := H.1 t r2 hT
    have hsg := rdT_sg hT
    have z3 : m2 3 = m1 3 := a4 3 (by decide) (by decide) (by decide)
    have z6 : m2 6 = m1 6 := a4 6 (by decide) (by decide) (by decide)
    have z8 : m2 8 = m1 8 := a4 8 (by decide) (by decide) (by decide)
    have W2 := cells x2 a3 a11
    have I2 := I1.mv (a3 45 (by decide) (by decide)) (a3 41 (by decide) (by decide)) (a3 28 (by decide) (by decide)) (a3 39 (by decide) (by decide))
    have U2 : UOK (x2 36) := by rw [a3 36 (by decide) (by decide)]; exact U1
    have u36 : x2 36 = x 36 := (a3 36 (by decide) (by decide)).trans (e1 36 (by decide))
    have e37' : x2 37 = x 37 := (a3 37 (by decide) (by decide)).trans e37
    have b41 : gZ (x2 41) C.length = bZ b := by rw [a3 41 (by decide) (by decide)]; exact q2
    have F2 : Fr ksL2 w w2 := FL1.tr (a2.sub kR)
    have XL2 : ∀ j, ¬ j ∈ ksL → x2 j = x j := fun j hj => (a3 j (nL j hj).2.1 (nL j hj).2.2.2.2).trans (XL1 j hj)
    have ML2 : mL m m2 := fun i i4 i5 i6 i7 i8 => (a4 i i4 i5 i7).trans (ML1 i i4 i5 i6 i7 i8)
    have hm2 := a1.1
    have ew : uH w2 27 (.inr (8, mF m2)) = w2 := uH_self hm2
    have T2 := a1.tr (by rw [e37', z3, y3]; exact hd) (by omega) (by omega) (by omega) (by omega) a10
    rw [e37'] at T2
    rw [z3, y3] at a6
    by_cases he : heZ (x 37) (m2 4) (m 3) = 61
    · have hlt : m2 4 < m 3 := by
        unfold heZ at he
        split at he
        · assumption
        · omega
      have er2 : r2 = 61 :: seg (x 37) (m2 4 + 1) (m 3) := by
        rw [← a6, seg_cons (by omega) hlt (by omega)]
        unfold heZ at he
        rw [if_pos hlt] at he
        rw [he]
      have X3 := x96y (c := 61) (d + 1) hN T2 (by rw [z3, y3]; exact he) (by omega) (by omega)
      obtain ⟨m3, hm3⟩ : ∃ m3, m3 = st_ m2 4 (m2 4 + 1) := ⟨_, rfl⟩
      obtain ⟨w3, hw3⟩ : ∃ w3, w3 = uH w2 27 (.inr (8, mF m3)) := ⟨_, rfl⟩
      rw [← hm3, ← hw3] at X3
      have R3 : RO w3 m3 x2 := by rw [hw3]; exact a1.fld m3
      have n38 : (x2 38).length = 600 := (R3.2 38 (by decide) (by decide)).2
      have h38 : w3 38 = cI 0 (x2 38) := (R3.2 38 (by decide) (by decide)).1
      have v7 : m3 7 = m2 7 := by rw [hm3]; exact st_ne (by decide)
      have C3 := c1_st (i := 3) (v := .int (iZ (m2 7))) rfl c1_
      obtain ⟨lv4, s1, s2, s3⟩ := l103_82 (w := w3) (m := m3) (d + 3) hN R3.1 (m 7) (by omega) t.length (m2 7) (x2 38) _ (by omega) (by omega) n38 C3 (by rw [lk_s c1_]; exact p0) (by rw [lk_s c1_]; exact p1) (by rw [lk_s c1_]; rfl)
      rw [uH_self h38] at s3
      obtain ⟨Rs, hRs⟩ : ∃ Rs, Rs = shD t.length (m2 7) (x2 38) := ⟨_, rfl⟩
      have nRs : Rs.length = 600 := by rw [hRs, shD_len]; exact n38
      have aRs : ∀ j, 0 ≤ j → gZ Rs j = if m 7 < j ∧ j ≤ m2 7 then gZ (x2 38) (j - 1) else gZ (x2 38) j := fun j j0 => by
        rw [hRs, shD_at _ _ _ _ (by omega) (by omega) j0]
        by_cases hj : m 7 < j ∧ j ≤ m2 7
        · rw [if_pos (by omega), if_pos hj]
        · rw [if_neg (by omega), if_neg hj]
      rw [← hRs] at s3
      obtain ⟨w4, hw4⟩ : ∃ w4, w4 = uH w3 38 (cI 0 Rs) := ⟨_, rfl⟩
      rw [← hw4] at s3
      have R4 : RO w4 m3 (ux x2 38 Rs) := by rw [hw4]; exact R3.set (j := 38) (by decide) nRs
      have hm4 := R4.1
      have h48 : w4 38 = cI 0 Rs := (R4.2 38 (by decide) (by decide)).1
      obtain ⟨m5, hm5⟩ : ∃ m5, m5 = st_ m3 7 (m2 7 + 1) := ⟨_, rfl⟩
      obtain ⟨Q, hQ⟩ : ∃ Q, Q = sZ Rs (m 7) 99 := ⟨_, rfl⟩
      obtain ⟨w5, hw5⟩ : ∃ w5, w5 = uH (uH w4 27 (.inr (8, mF m5))) 38 (cI 0 Q) := ⟨_, rfl⟩
      have nQ : Q.length = 600 := by rw [hQ, sZ_len]; exact nRs
      have R5 : RO w5 m5 (ux (ux x2 38 Rs) 38 Q) := by rw [hw5]; exact (R4.fld m5).set (j := 38) (by decide) nQ
      have aQ : ∀ j, 0 ≤ j → gZ Q j = if m 7 = j then 99 else gZ Rs j := fun j j0 => by rw [hQ]; exact gZ_sZ (by omega) (by omega) j0
      obtain ⟨x5, hx5⟩ : ∃ x5, x5 = ux (ux x2 38 Rs) 38 Q := ⟨_, rfl⟩
      rw [← hx5] at R5
      have e538 : x5 38 = Q := by rw [hx5, ux_at]
      have e5j : ∀ j, j ≠ 38 → x5 j = x2 j := fun j hj => by rw [hx5, ux_ne hj, ux_ne hj]
      have t3 : m5 3 = m2 3 := by rw [hm5, hm3, st_ne (by decide), st_ne (by decide)]
      have t4 : m5 4 = m2 4 + 1 := by rw [hm5, hm3, st_ne (by decide), st_at]
      have t5 : m5 5 = m2 5 := by rw [hm5, hm3, st_ne (by decide), st_ne (by decide)]
      have t6 : m5 6 = m2 6 := by rw [hm5, hm3, st_ne (by decide), st_ne (by decide)]
      have t7 : m5 7 = m2 7 + 1 := by rw [hm5, st_at]
      have t8 : m5 8 = m2 8 := by rw [hm5, hm3, st_ne (by decide), st_ne (by decide)]
      have tt : ∀ i, i ≠ 4 → i ≠ 7 → m5 i = m2 i := fun i i4 i7 => by rw [hm5, hm3, st_ne i7, st_ne i4]
      have F5 : Fr ksL2 w w5 := by
        rw [hw5, hw4, hw3]
        exact (((F2.up (by decide)).up (by decide)).up (by decide)).up (by decide)
      have W5 : RW C (x5 38) (x5 39) (x5 41) := W2.cp (fun j hj => by
        rw [e538, aQ _ (by omega), if_neg (by omega), aRs _ (by omega), if_neg (by omega)]) (fun k hk => by rw [e5j 39 (by decide)]) (fun k hk => by rw [e5j 41 (by decide)])
      have I5 := I2.mv (e5j 45 (by decide)) (e5j 41 (by decide)) (e5j 28 (by decide)) (e5j 39 (by decide))
      have row99 : gZ (x5 38) (m 7) = 99 := by rw [e538, aQ _ (by omega), if_pos rfl]
      have rowt : ∀ j : Nat, j < t.length → gZ (x5 38) (m 7 + 1 + j) = t.getD j 0 := fun j hj => by
        rw [e538, aQ _ (by omega), if_neg (by omega), aRs _ (by omega), if_pos (by omega), show m 7 + 1 + (j : Int) - 1 = m1 7 + (j : Int) by omega]
        exact a12 j hj
      have l40 : x_lk lv4 0 = some (.ref 30) := by rw [s2 0 (by decide), lk_s c1_]; exact p0
      have l41 : x_lk lv4 1 = some (.int (iZ (m 7))) := by rw [s2 1 (by decide), lk_s c1_]; exact p1
      have l41f : x_lk lv4 1 = some (.int (iZ ((flt C).length : Int))) := by rw [l41, e7]
      have g61 : ∀ res, Gx q_k103 (d + 3) 125 (lv4, [], hp w5 N) res → Gx q_k103 (d + 3) 61 (lv1, [], hp w2 N) res := fun res hg => by
        have hm3' := R3.1
        refine Gx.run 40 X3 (fun K mm => ?_) (s3 res (Gx.run 40 Cs.tt (fun K _ => ?_) hg))
        · simp (disch := first | (refine c1_id ?_; assumption) | (refine c1_st rfl ?_; repeat (first | assumption | refine c1_st rfl ?_)) | omega) [nx_l, nx_r, nx_n, x_st, x_push, x_bin, x_div, x_un, x_dup, x_pop, x_dup2, x_goto, x_ifeq, x_ifne, x_iflt, x_ifge, x_ifgt, x_ifle, x_iceq, x_icne, x_iclt, x_icge, x_icgt, x_icle, x_ifnull, x_ifnonnull, x_ldi, x_lda, x_sti, x_sta, x_iinc, x_gf, x_pf, x_ald, x_ast, x_aln, x_len, x_cl_, x_cv, x_cs, x_rc, x_r0, x_isT, x_oi, x_rv, x_ri, x_ra, Value.category, t103_0, t103_1, t103_4, t103_5, t103_8, t103_9, t103_12, t103_13, t103_14, t103_17, t103_18, t103_21, t103_22, t103_24, t103_27, t103_28, t103_29, t103_32, t103_33, t103_34, t103_37, t103_39, t103_42, t103_43, t103_46, t103_48, t103_51, t103_52, t103_55, t103_56, t103_57, t103_58, t103_61, t103_62, t103_65, t103_68, t103_69, t103_71, t103_74, t103_77, t103_78, t103_81, t103_82, t103_83, t103_84, t103_87, t103_88, t103_91, t103_92, t103_93, t103_96, t103_97, t103_98, t103_99, t103_100, t103_101, t103_104, t103_107, t103_108, t103_111, t103_112, t103_114, t103_115, t103_116, t103_117, t103_120, t103_121, t103_122, t103_125, t103_126, t103_129, t103_130, t103_131, t103_132, t103_133, t103_134, t103_137, t103_138, t103_141, t103_144, t103_145, t103_146, t103_149, t103_152, t103_153, t103_156, t103_157, t103_160, t103_161, t103_164, t103_165, t103_166, t103_167, t103_170, t103_171, t103_174, t103_175, t103_176, t103_179, t103_180, t103_181, t103_184, t103_185, t103_188, t103_189, t103_192, t103_193, t103_196, t103_197, t103_198, t103_199, t103_202, t103_203, t103_204, t103_207, t103_210, t103_211, t103_212, t103_215, t103_216, t103_217, t103_220, t103_221, t103_222, t103_225, t103_226, t103_229, t103_230, t103_233, lk_s, hp_get, hp_set, uH_at, uH_ne, uH_upd, uH_swap, iZ_add, iZ_sub, iZ_mul, iZ_neg, iZ_lt, iZ_le, iZ_eq, iZ_div, iZ_of, ix_Z, gZ_map, gZ_mapI, gZ_map', le_0, le_s, sZ_map, sZ_len, bZ_0, bZ_inj, bZ_t, bZ_f, nr_i, nr_0, nr_1, nr_b, ft_i, ft_b, ft_0, ft_1, zl_0, zl_1, zl_61, zl_65, zl_90, zl_99, zl_126, mF_len, mg_0, mg_1, mg_2, mg_3, mg_4, mg_5, mg_6, mg_7, mg_8, mg_9, mg_10, mg_11, mg_12, mg_13, mg_14, mg_15, mg_16, mg_17, mg_18, mg_19, mg_20, mg_21, mg_22, mg_23, mg_24, mg_25, mg_26, mg_27, mg_28, mg_29, mg_30, mg_31, mg_32, mg_33, mg_34, mg_35, mg_36, mg_37, mg_38, ms_0, ms_1, ms_2, ms_13, ms_14, ms_15, ms_16, ms_21, ms_22, ms_23, ms_24, ms_28, ms_36, ms_37, ms_38, st_at, st_ne, st_st, st_swap, p0, hm2, a5, mm, hm3', v7, -List.filter_filter, -List.getElem?_map, -List.getD_eq_getElem?_getD]
        · rw [hw5, hm5, hQ]
          simp (disch := first | (refine c1_id ?_; assumption) | (refine c1_st rfl ?_; repeat (first | assumption | refine c1_st rfl ?_)) | omega) [nx_l, nx_r, nx_n, x_st, x_push, x_bin, x_div, x_un, x_dup, x_pop, x_dup2, x_goto, x_ifeq, x_ifne, x_iflt, x_ifge, x_ifgt, x_ifle, x_iceq, x_icne, x_iclt, x_icge, x_icgt, x_icle, x_ifnull, x_ifnonnull, x_ldi, x_lda, x_sti, x_sta, x_iinc, x_gf, x_pf, x_ald, x_ast, x_aln, x_len, x_cl_, x_cv, x_cs, x_rc, x_r0, x_isT, x_oi, x_rv, x_ri, x_ra, Value.category, t103_0, t103_1, t103_4, t103_5, t103_8, t103_9, t103_12, t103_13, t103_14, t103_17, t103_18, t103_21, t103_22, t103_24, t103_27, t103_28, t103_29, t103_32, t103_33, t103_34, t103_37, t103_39, t103_42, t103_43, t103_46, t103_48, t103_51, t103_52, t103_55, t103_56, t103_57, t103_58, t103_61, t103_62, t103_65, t103_68, t103_69, t103_71, t103_74, t103_77, t103_78, t103_81, t103_82, t103_83, t103_84, t103_87, t103_88, t103_91, t103_92, t103_93, t103_96, t103_97, t103_98, t103_99, t103_100, t103_101, t103_104, t103_107, t103_108, t103_111, t103_112, t103_114, t103_115, t103_116, t103_117, t103_120, t103_121, t103_122, t103_125, t103_126, t103_129, t103_130, t103_131, t103_132, t103_133, t103_134, t103_137, t103_138, t103_141, t103_144, t103_145, t103_146, t103_149, t103_152, t103_153, t103_156, t103_157, t103_160, t103_161, t103_164, t103_165, t103_166, t103_167, t103_170, t103_171, t103_174, t103_175, t103_176, t103_179, t103_180, t103_181, t103_184, t103_185, t103_188, t103_189, t103_192, t103_193, t103_196, t103_197, t103_198, t103_199, t103_202, t103_203, t103_204, t103_207, t103_210, t103_211, t103_212, t103_215, t103_216, t103_217, t103_220, t103_221, t103_222, t103_225, t103_226, t103_229, t103_230, t103_233, lk_s, hp_get, hp_set, uH_at, uH_ne, uH_upd, uH_swap, iZ_add, iZ_sub, iZ_mul, iZ_neg, iZ_lt, iZ_le, iZ_eq, iZ_div, iZ_of, ix_Z, gZ_map, gZ_mapI, gZ_map', le_0, le_s, sZ_map, sZ_len, bZ_0, bZ_inj, bZ_t, bZ_f, nr_i, nr_0, nr_1, nr_b, ft_i, ft_b, ft_0, ft_1, zl_0, zl_1, zl_61, zl_65, zl_90, zl_99, zl_126, mF_len, mg_0, mg_1, mg_2, mg_3, mg_4, mg_5, mg_6, mg_7, mg_8, mg_9, mg_10, mg_11, mg_12, mg_13, mg_14, mg_15, mg_16, mg_17, mg_18, mg_19, mg_20, mg_21, mg_22, mg_23, mg_24, mg_25, mg_26, mg_27, mg_28, mg_29, mg_30, mg_31, mg_32, mg_33, mg_34, mg_35, mg_36, mg_37, mg_38, ms_0, ms_1, ms_2, ms_13, ms_14, ms_15, ms_16, ms_21, ms_22, ms_23, ms_24, ms_28, ms_36, ms_37, ms_38, st_at, st_ne, st_st, st_swap, l40, l41, hm4, h48, v7, -List.filter_filter, -List.getElem?_map, -List.getD_eq_getElem?_getD]
      have hd5 : ∀ i, 0 ≤ i → i < m5 3 → 0 ≤ gZ (x5 37) i ∧ gZ (x5 37) i < 128 := by
        rw [e5j 37 (by decide), e37', t3, z3, y3]
        exact hd
      have H5 := A100r d hN R5 hd5 (by omega) (by omega) (by omega) (by omega) (by omega) (by omega)
      rw [e5j 37 (by decide), e37', t3, z3, y3, t4] at H5
      have XL5 : ∀ j, ¬ j ∈ ksL → x5 j = x j := fun j hj => (e5j j (nL j hj).2.1).trans (XL2 j hj)
      have ML5 : mL m m5 := fun i i4 i5 i6 i7 i8 => (tt i i4 i7).trans (ML2 i i4 i5 i6 i7 i8)
      have eMe : rdM 30 r' = (match rdT 30 (seg (x 37) (m2 4 + 1) (m 3)) with
        | none => none
        | some (uu, r4) => some (99 :: (t ++ uu), r4)) := by
        unfold rdM
        rw [hT, er2]
        dsimp only
        refine (if_pos rfl).trans ?_
        cases rdT 30 (seg (x 37) (m2 4 + 1) (m 3)) with
        | none => rfl
        | some q => rfl
      cases hT2 : rdT 30 (seg (x 37) (m2 4 + 1) (m 3)) with
      | none =>
        rw [eMe, hT2]
        refine ⟨fun b A r1 z => (by cases z), fun _ => ?_⟩
        obtain ⟨w6, m6, x6, d1, d2, d3, d4, d5, d6, d7, d8, d9, d10, d11, d12⟩ := H5.2 hT2
        have f3 : m6 3 = m5 3 := d4 3 (by decide) (by decide) (by decide)
        have f6 : m6 6 = m5 6 := d4 6 (by decide) (by decide) (by decide)
        have f8 : m6 8 = m5 8 := d4 8 (by decide) (by decide) (by decide)
        have W6 : RW C (x6 38) (x6 39) (x6 41) := W5.cp (fun j hj => d10 j (by omega) (by omega)) (fun k hk => by rw [d3 39 (by decide) (by decide)]) (fun k hk => by rw [d3 41 (by decide) (by decide)])
        have I6 := I5.mv (d3 45 (by decide) (by decide)) (d3 41 (by decide) (by decide)) (d3 28 (by decide) (by decide)) (d3 39 (by decide) (by decide))
        obtain ⟨w7, m7, x7, u', b1, b2, b3, b4, b5, b6, b7, b8, b9, b10⟩ := tailB d hN false d1 I6 W6 hv hc6 (by omega) u (by rw [d3 36 (by decide) (by decide), e5j 36 (by decide)]; exact U2) (by omega) (by omega) (by rw [if_neg (by decide)]; omega) (fun i i0 i1 => by
          by_cases hi : i < m5 7
          · rw [d10 i (by omega) hi]
            by_cases hi2 : i = m 7
            · rw [hi2, row99]
              omega
            · have := rowt (i - (m 7 + 1)).toNat (by omega)
              rw [show m 7 + 1 + (((i - (m 7 + 1)).toNat : Nat) : Int) = i by omega] at this
              rw [this]
              exact sg204 _ (hsg _ (getD_mem (by omega)))
          · exact sg204 _ (d11 i (by omega) i1)) s1 l40 l41f
        rw [if_neg (by decide)] at b10
        have hg125 : Gx q_k103 (d + 3) 125 (lv4, [], hp w5 N) (none, hp w7 N) := by
          refine Gx.run 20 d12 (fun K mm => ?_) b10
          have hmw := R5.1
          simp (disch := first | (refine c1_id ?_; assumption) | (refine c1_st rfl ?_; repeat (first | assumption | refine c1_st rfl ?_)) | omega) [nx_l, nx_r, nx_n, x_st, x_push, x_bin, x_div, x_un, x_dup, x_pop, x_dup2, x_goto, x_ifeq, x_ifne, x_iflt, x_ifge, x_ifgt, x_ifle, x_iceq, x_icne, x_iclt, x_icge, x_icgt, x_icle, x_ifnull, x_ifnonnull, x_ldi, x_lda, x_sti, x_sta, x_iinc, x_gf, x_pf, x_ald, x_ast, x_aln, x_len, x_cl_, x_cv, x_cs, x_rc, x_r0, x_isT, x_oi, x_rv, x_ri, x_ra, Value.category, t103_0, t103_1, t103_4, t103_5, t103_8, t103_9, t103_12, t103_13, t103_14, t103_17, t103_18, t103_21, t103_22, t103_24, t103_27, t103_28, t103_29, t103_32, t103_33, t103_34, t103_37, t103_39, t103_42, t103_43, t103_46, t103_48, t103_51, t103_52, t103_55, t103_56, t103_57, t103_58, t103_61, t103_62, t103_65, t103_68, t103_69, t103_71, t103_74, t103_77, t103_78, t103_81, t103_82, t103_83, t103_84, t103_87, t103_88, t103_91, t103_92, t103_93, t103_96, t103_97, t103_98, t103_99, t103_100, t103_101, t103_104, t103_107, t103_108, t103_111, t103_112, t103_114, t103_115, t103_116, t103_117, t103_120, t103_121, t103_122, t103_125, t103_126, t103_129, t103_130, t103_131, t103_132, t103_133, t103_134, t103_137, t103_138, t103_141, t103_144, t103_145, t103_146, t103_149, t103_152, t103_153, t103_156, t103_157, t103_160, t103_161, t103_164, t103_165, t103_166, t103_167, t103_170, t103_171, t103_174, t103_175, t103_176, t103_179, t103_180, t103_181, t103_184, t103_185, t103_188, t103_189, t103_192, t103_193, t103_196, t103_197, t103_198, t103_199, t103_202, t103_203, t103_204, t103_207, t103_210, t103_211, t103_212, t103_215, t103_216, t103_217, t103_220, t103_221, t103_222, t103_225, t103_226, t103_229, t103_230, t103_233, lk_s, hp_get, hp_set, uH_at, uH_ne, uH_upd, uH_swap, iZ_add, iZ_sub, iZ_mul, iZ_neg, iZ_lt, iZ_le, iZ_eq, iZ_div, iZ_of, ix_Z, gZ_map, gZ_mapI, gZ_map', le_0, le_s, sZ_map, sZ_len, bZ_0, bZ_inj, bZ_t, bZ_f, nr_i, nr_0, nr_1, nr_b, ft_i, ft_b, ft_0, ft_1, zl_0, zl_1, zl_61, zl_65, zl_90, zl_99, zl_126, mF_len, mg_0, mg_1, mg_2, mg_3, mg_4, mg_5, mg_6, mg_7, mg_8, mg_9, mg_10, mg_11, mg_12, mg_13, mg_14, mg_15, mg_16, mg_17, mg_18, mg_19, mg_20, mg_21, mg_22, mg_23, mg_24, mg_25, mg_26, mg_27, mg_28, mg_29, mg_30, mg_31, mg_32, mg_33, mg_34, mg_35, mg_36, mg_37, mg_38, ms_0, ms_1, ms_2, ms_13, ms_14, ms_15, ms_16, ms_21, ms_22, ms_23, ms_24, ms_28, ms_36, ms_37, ms_38, st_at, st_ne, st_st, st_swap, l40, hmw, mm, -List.filter_filter, -List.getElem?_map, -List.getD_eq_getElem?_getD]
        have FF : Fr ksL2 w w7 := (F5.tr (d2.sub kR)).tr (b3.sub kT)
        have v3 := b5 3 (by decide) (by decide) (by decide)
        have v4 := b5 4 (by decide) (by decide) (by decide)
        have v5 := b5 5 (by decide) (by decide) (by decide)
        exact ⟨w7, m7, x7, u', b1, b2, FF, fun j hj => (b4 j (nL j hj).1 (nL j hj).2.2.1).trans ((d3 j (nL j hj).2.1 (nL j hj).2.2.2.2).trans (XL5 j hj)), fun i i4 i5 i6 i7 i8 => (b5 i i6 i7 i8).trans ((d4 i i4 i5 i7).trans (ML5 i i4 i5 i6 i7 i8)), by omega, by omega, by omega, b6, b7, b8, b9, fin w7 m7 x7 b1 FF (g57 w2 a13 _ (g61 _ hg125))⟩
      | some q =>
        obtain ⟨uu, r4⟩ := q
        rw [eMe, hT2]
        refine ⟨fun b' A r1 z => ?_, fun z => by cases z⟩
        cases z
        obtain ⟨w6, m6, x6, d1, d2, d3, d4, d5, d6, d7, d8, d9, d10, d11, d12, d13⟩ := H5.1 uu r4 hT2
        have f3 : m6 3 = m5 3 := d4 3 (by decide) (by decide) (by decide)
        have f6 : m6 6 = m5 6 := d4 6 (by decide) (by decide) (by decide)
        have f8 : m6 8 = m5 8 := d4 8 (by decide) (by decide) (by decide)
        have hsg2 := rdT_sg hT2
        have W6 : RW C (x6 38) (x6 39) (x6 41) := W5.cp (fun j hj => d11 j (by omega) (by omega)) (fun k hk => by rw [d3 39 (by decide) (by decide)]) (fun k hk => by rw [d3 41 (by decide) (by decide)])
        have I6 := I5.mv (d3 45 (by decide) (by decide)) (d3 41 (by decide) (by decide)) (d3 28 (by decide) (by decide)) (d3 39 (by decide) (by decide))
        have u366 : x6 36 = x 36 := (d3 36 (by decide) (by decide)).trans ((e5j 36 (by decide)).trans u36)
        obtain ⟨w7, m7, x7, b1, b2, b3, b4, b5, b6, b7, b8, b9, b10, b11, b12, b13, b14⟩ := tailK d hN false d1 I6 W6 hv hc6 (by omega) u (by rw [u366]; exact hU) (by omega) (bZ b) (99 :: (t ++ uu)) hb01 (fun s hs => by
          rcases List.mem_cons.mp hs with hs | hs
          · exact Or.inr hs
          · rcases List.mem_append.mp hs with hs | hs
            · exact Or.inl (hsg s hs)
            · exact Or.inl (hsg2 s hs)) (fun _ => ⟨_, rfl⟩) (fun j hj => by
          simp only [List.length_cons, List.length_append] at hj
          cases j with
          | zero =>
            rw [show ((flt C).length : Int) + ((0 : Nat) : Int) = m 7 by omega, d11 _ (by omega) (by omega), row99]
            rfl
          | succ j =>
            show _ = (t ++ uu).getD j 0
            rw [getD_app]
            by_cases hj2 : j < t.length
            · rw [if_pos hj2, show ((flt C).length : Int) + ((j + 1 : Nat) : Int) = m 7 + 1 + (j : Int) by omega, d11 _ (by omega) (by omega)]
              exact rowt j hj2
            · rw [if_neg hj2]
              have := d12 (j - t.length) (by omega)
              rw [show m5 7 + ((j - t.length : Nat) : Int) = (flt C).length + ((j + 1 : Nat) : Int) by omega] at this
              exact this) (by rw [d3 41 (by decide) (by decide), e5j 41 (by decide)]; exact b41) (by simp only [List.length_cons, List.length_append]; omega) (by omega) s1 l40 l41f
        rw [if_neg (by decide)] at b14
        rw [u366] at b11 b12
        have hg125 : Gx q_k103 (d + 3) 125 (lv4, [], hp w5 N) (none, hp w7 N) := by
          refine Gx.run 20 d13 (fun K mm => ?_) b14
          have hmw := R5.1
          simp (disch := first | (refine c1_id ?_; assumption) | (refine c1_st rfl ?_; repeat (first | assumption | refine c1_st rfl ?_)) | omega) [nx_l, nx_r, nx_n, x_st, x_push, x_bin, x_div, x_un, x_dup, x_pop, x_dup2, x_goto, x_ifeq, x_ifne, x_iflt, x_ifge, x_ifgt, x_ifle, x_iceq, x_icne, x_iclt, x_icge, x_icgt, x_icle, x_ifnull, x_ifnonnull, x_ldi, x_lda, x_sti, x_sta, x_iinc, x_gf, x_pf, x_ald, x_ast, x_aln, x_len, x_cl_, x_cv, x_cs, x_rc, x_r0, x_isT, x_oi, x_rv, x_ri, x_ra, Value.category, t103_0, t103_1, t103_4, t103_5, t103_8, t103_9, t103_12, t103_13, t103_14, t103_17, t103_18, t103_21, t103_22, t103_24, t103_27, t103_28, t103_29, t103_32, t103_33, t103_34, t103_37, t103_39, t103_42, t103_43, t103_46, t103_48, t103_51, t103_52, t103_55, t103_56, t103_57, t103_58, t103_61, t103_62, t103_65, t103_68, t103_69, t103_71, t103_74, t103_77, t103_78, t103_81, t103_82, t103_83, t103_84, t103_87, t103_88, t103_91, t103_92, t103_93, t103_96, t103_97, t103_98, t103_99, t103_100, t103_101, t103_104, t103_107, t103_108, t103_111, t103_112, t103_114, t103_115, t103_116, t103_117, t103_120, t103_121, t103_122, t103_125, t103_126, t103_129, t103_130, t103_131, t103_132, t103_133, t103_134, t103_137, t103_138, t103_141, t103_144, t103_145, t103_146, t103_149, t103_152, t103_153, t103_156, t103_157, t103_160, t103_161, t103_164, t103_165, t103_166, t103_167, t103_170, t103_171, t103_174, t103_175, t103_176, t103_179, t103_180, t103_181, t103_184, t103_185, t103_188, t103_189, t103_192, t103_193, t103_196, t103_197, t103_198, t103_199, t103_202, t103_203, t103_204, t103_207, t103_210, t103_211, t103_212, t103_215, t103_216, t103_217, t103_220, t103_221, t103_222, t103_225, t103_226, t103_229, t103_230, t103_233, lk_s, hp_get, hp_set, uH_at, uH_ne, uH_upd, uH_swap, iZ_add, iZ_sub, iZ_mul, iZ_neg, iZ_lt, iZ_le, iZ_eq, iZ_div, iZ_of, ix_Z, gZ_map, gZ_mapI, gZ_map', le_0, le_s, sZ_map, sZ_len, bZ_0, bZ_inj, bZ_t, bZ_f, nr_i, nr_0, nr_1, nr_b, ft_i, ft_b, ft_0, ft_1, zl_0, zl_1, zl_61, zl_65, zl_90, zl_99, zl_126, mF_len, mg_0, mg_1, mg_2, mg_3, mg_4, mg_5, mg_6, mg_7, mg_8, mg_9, mg_10, mg_11, mg_12, mg_13, mg_14, mg_15, mg_16, mg_17, mg_18, mg_19, mg_20, mg_21, mg_22, mg_23, mg_24, mg_25, mg_26, mg_27, mg_28, mg_29, mg_30, mg_31, mg_32, mg_33, mg_34, mg_35, mg_36, mg_37, mg_38, ms_0, ms_1, ms_2, ms_13, ms_14, ms_15, ms_16, ms_21, ms_22, ms_23, ms_24, ms_28, ms_36, ms_37, ms_38, st_at, st_ne, st_st, st_swap, l40, hmw, mm, -List.filter_filter, -List.getElem?_map, -List.getD_eq_getElem?_getD]
        have FF : Fr ksL2 w w7 := (F5.tr (d2.sub kR)).tr (b3.sub kT)
        have v3 := b5 3 (by decide) (by decide) (by decide)
        have v4 := b5 4 (by decide) (by decide) (by decide)
        have v5 := b5 5 (by decide) (by decide) (by decide)
        exact ⟨w7, m7, x7, b1, b2, FF, fun j hj => (b4 j (nL j hj).1 (nL j hj).2.2.1).trans ((d3 j (nL j hj).2.1 (nL j hj).2.2.2.2).trans (XL5 j hj)), fun i i4 i5 i6 i7 i8 => (b5 i i6 i7 i8).trans ((d4 i i4 i5 i7).trans (ML5 i i4 i5 i6 i7 i8)), by omega, by rw [v4, v3]; exact d6, by omega, by omega, b6, b7, b8, b9, by omega, b11, b12, b13, fin w7 m7 x7 b1 FF (g57 w2 a13 _ (g61 _ hg125))⟩
    · have X3 := x96n (c := 61) (d + 1) hN T2 (by rw [z3, y3]; exact he) (by omega) (by omega)
      have eMn : rdM 30 r' = if hdU r' = true then none else some (t, r2) := by
        unfold rdM
        rw [hT]
        cases r2 with
        | nil => rfl
        | cons c r3 =>
          have hce := (sg_c (D := x 37) (by omega) (by omega) a6).2.1
          dsimp only
          rw [if_neg (fun z => he (by rw [hce]; exact z))]
      by_cases hu : hdU r' = true
      · rw [eMn, if_pos hu]
        refine ⟨fun b A r1 z => (by cases z), fun _ => ?_⟩
        rw [hu, bZ_t] at p2
        obtain ⟨m3, hm3⟩ : ∃ m3, m3 = st_ m2 5 1 := ⟨_, rfl⟩
        obtain ⟨w3, hw3⟩ : ∃ w3, w3 = uH w2 27 (.inr (8, mF m3)) := ⟨_, rfl⟩
        have R3 : RO w3 m3 x2 := by rw [hw3]; exact a1.fld m3
        have s5 : m3 5 = 1 := by rw [hm3, st_at]
        have sj : ∀ i, i ≠ 5 → m3 i = m2 i := fun i hi => by rw [hm3]; exact st_ne hi
        have g3 := sj 3 (by decide)
        have g4 := sj 4 (by decide)
        have g6 := sj 6 (by decide)
        have g7 := sj 7 (by decide)
        have g8 := sj 8 (by decide)
        obtain ⟨w4, m4, x4, u', b1, b2, b3, b4, b5, b6, b7, b8, b9, b10⟩ := tailB d hN true R3 I2 W2 hv hc6 (by omega) u U2 (by omega) (by omega) (by rw [if_pos rfl]; omega) (fun i i0 i1 => by
          have := a12 (i - m1 7).toNat (by omega)
          rw [show m1 7 + (((i - m1 7).toNat : Nat) : Int) = i by omega] at this
          rw [this]
          exact sg204 _ (hsg _ (getD_mem (by omega)))) c1_ p0 l1f
        rw [if_pos rfl] at b10
        have g61 : Gx q_k103 (d + 3) 61 (lv1, [], hp w2 N) (none, hp w4 N) := by
          refine Gx.run 60 X3 (fun K mm => ?_) b10
          rw [hw3, hm3]
          simp (disch := first | (refine c1_id ?_; assumption) | (refine c1_st rfl ?_; repeat (first | assumption | refine c1_st rfl ?_)) | omega) [nx_l, nx_r, nx_n, x_st, x_push, x_bin, x_div, x_un, x_dup, x_pop, x_dup2, x_goto, x_ifeq, x_ifne, x_iflt, x_ifge, x_ifgt, x_ifle, x_iceq, x_icne, x_iclt, x_icge, x_icgt, x_icle, x_ifnull, x_ifnonnull, x_ldi, x_lda, x_sti, x_sta, x_iinc, x_gf, x_pf, x_ald, x_ast, x_aln, x_len, x_cl_, x_cv, x_cs, x_rc, x_r0, x_isT, x_oi, x_rv, x_ri, x_ra, Value.category, t103_0, t103_1, t103_4, t103_5, t103_8, t103_9, t103_12, t103_13, t103_14, t103_17, t103_18, t103_21, t103_22, t103_24, t103_27, t103_28, t103_29, t103_32, t103_33, t103_34, t103_37, t103_39, t103_42, t103_43, t103_46, t103_48, t103_51, t103_52, t103_55, t103_56, t103_57, t103_58, t103_61, t103_62, t103_65, t103_68, t103_69, t103_71, t103_74, t103_77, t103_78, t103_81, t103_82, t103_83, t103_84, t103_87, t103_88, t103_91, t103_92, t103_93, t103_96, t103_97, t103_98, t103_99, t103_100, t103_101, t103_104, t103_107, t103_108, t103_111, t103_112, t103_114, t103_115, t103_116, t103_117, t103_120, t103_121, t103_122, t103_125, t103_126, t103_129, t103_130, t103_131, t103_132, t103_133, t103_134, t103_137, t103_138, t103_141, t103_144, t103_145, t103_146, t103_149, t103_152, t103_153, t103_156, t103_157, t103_160, t103_161, t103_164, t103_165, t103_166, t103_167, t103_170, t103_171, t103_174, t103_175, t103_176, t103_179, t103_180, t103_181, t103_184, t103_185, t103_188, t103_189, t103_192, t103_193, t103_196, t103_197, t103_198, t103_199, t103_202, t103_203, t103_204, t103_207, t103_210, t103_211, t103_212, t103_215, t103_216, t103_217, t103_220, t103_221, t103_222, t103_225, t103_226, t103_229, t103_230, t103_233, lk_s, hp_get, hp_set, uH_at, uH_ne, uH_upd, uH_swap, iZ_add, iZ_sub, iZ_mul, iZ_neg, iZ_lt, iZ_le, iZ_eq, iZ_div, iZ_of, ix_Z, gZ_map, gZ_mapI, gZ_map', le_0, le_s, sZ_map, sZ_len, bZ_0, bZ_inj, bZ_t, bZ_f, nr_i, nr_0, nr_1, nr_b, ft_i, ft_b, ft_0, ft_1, zl_0, zl_1, zl_61, zl_65, zl_90, zl_99, zl_126, mF_len, mg_0, mg_1, mg_2, mg_3, mg_4, mg_5, mg_6, mg_7, mg_8, mg_9, mg_10, mg_11, mg_12, mg_13, mg_14, mg_15, mg_16, mg_17, mg_18, mg_19, mg_20, mg_21, mg_22, mg_23, mg_24, mg_25, mg_26, mg_27, mg_28, mg_29, mg_30, mg_31, mg_32, mg_33, mg_34, mg_35, mg_36, mg_37, mg_38, ms_0, ms_1, ms_2, ms_13, ms_14, ms_15, ms_16, ms_21, ms_22, ms_23, ms_24, ms_28, ms_36, ms_37, ms_38, st_at, st_ne, st_st, st_swap, p0, p2, hm2, a5, mm, -List.filter_filter, -List.getElem?_map, -List.getD_eq_getElem?_getD]
        have FF : Fr ksL2 w w4 := by
          refine Fr.tr (w' := w3) ?_ (b3.sub kT)
          rw [hw3]
          exact F2.up (by decide)
        have v3 := b5 3 (by decide) (by decide) (by decide)
        have v4 := b5 4 (by decide) (by decide) (by decide)
        have v5 := b5 5 (by decide) (by decide) (by decide)
        exact ⟨w4, m4, x4, u', b1, b2, FF, fun j hj => (b4 j (nL j hj).1 (nL j hj).2.2.1).trans (XL2 j hj), fun i i4 i5 i6 i7 i8 => (b5 i i6 i7 i8).trans ((sj i i5).trans (ML2 i i4 i5 i6 i7 i8)), by omega, by omega, by omega, b6, b7, b8, b9, fin w4 m4 x4 b1 FF (g57 w2 a13 _ g61)⟩
      · rw [eMn, if_neg hu]
        refine ⟨fun b' A r1 z => ?_, fun z => by cases z⟩
        cases z
        have hu2 : hdU r' = false := by simpa using hu
        rw [hu2, bZ_f] at p2
        obtain ⟨w4, m4, x4, b1, b2, b3, b4, b5, b6, b7, b8, b9, b10, b11, b12, b13, b14⟩ := tailK d hN true a1 I2 W2 hv hc6 (by omega) u U2 (by omega) (bZ b) t hb01 (fun s hs => Or.inl (hsg s hs)) (fun z => (by cases z)) (fun j hj => by
          have := a12 j hj
          rw [show m1 7 + (j : Int) = (flt C).length + (j : Int) by omega] at this
          exact this) b41 (by omega) (by omega) c1_ p0 l1f
        rw [if_pos rfl] at b14
        rw [u36] at b11 b12
        have e5 : st_ m2 5 0 = m2 := st_self a5
        have g61 : Gx q_k103 (d + 3) 61 (lv1, [], hp w2 N) (none, hp w4 N) := by
          refine Gx.run 60 X3 (fun K mm => ?_) b14
          simp (disch := first | (refine c1_id ?_; assumption) | (refine c1_st rfl ?_; repeat (first | assumption | refine c1_st rfl ?_)) | omega) [nx_l, nx_r, nx_n, x_st, x_push, x_bin, x_div, x_un, x_dup, x_pop, x_dup2, x_goto, x_ifeq, x_ifne, x_iflt, x_ifge, x_ifgt, x_ifle, x_iceq, x_icne, x_iclt, x_icge, x_icgt, x_icle, x_ifnull, x_ifnonnull, x_ldi, x_lda, x_sti, x_sta, x_iinc, x_gf, x_pf, x_ald, x_ast, x_aln, x_len, x_cl_, x_cv, x_cs, x_rc, x_r0, x_isT, x_oi, x_rv, x_ri, x_ra, Value.category, t103_0, t103_1, t103_4, t103_5, t103_8, t103_9, t103_12, t103_13, t103_14, t103_17, t103_18, t103_21, t103_22, t103_24, t103_27, t103_28, t103_29, t103_32, t103_33, t103_34, t103_37, t103_39, t103_42, t103_43, t103_46, t103_48, t103_51, t103_52, t103_55, t103_56, t103_57, t103_58, t103_61, t103_62, t103_65, t103_68, t103_69, t103_71, t103_74, t103_77, t103_78, t103_81, t103_82, t103_83, t103_84, t103_87, t103_88, t103_91, t103_92, t103_93, t103_96, t103_97, t103_98, t103_99, t103_100, t103_101, t103_104, t103_107, t103_108, t103_111, t103_112, t103_114, t103_115, t103_116, t103_117, t103_120, t103_121, t103_122, t103_125, t103_126, t103_129, t103_130, t103_131, t103_132, t103_133, t103_134, t103_137, t103_138, t103_141, t103_144, t103_145, t103_146, t103_149, t103_152, t103_153, t103_156, t103_157, t103_160, t103_161, t103_164, t103_165, t103_166, t103_167, t103_170, t103_171, t103_174, t103_175, t103_176, t103_179, t103_180, t103_181, t103_184, t103_185, t103_188, t103_189, t103_192, t103_193, t103_196, t103_197, t103_198, t103_199, t103_202, t103_203, t103_204, t103_207, t103_210, t103_211, t103_212, t103_215, t103_216, t103_217, t103_220, t103_221, t103_222, t103_225, t103_226, t103_229, t103_230, t103_233, lk_s, hp_get, hp_set, uH_at, uH_ne, uH_upd, uH_swap, iZ_add, iZ_sub, iZ_mul, iZ_neg, iZ_lt, iZ_le, iZ_eq, iZ_div, iZ_of, ix_Z, gZ_map, gZ_mapI, gZ_map', le_0, le_s, sZ_map, sZ_len, bZ_0, bZ_inj, bZ_t, bZ_f, nr_i, nr_0, nr_1, nr_b, ft_i, ft_b, ft_0, ft_1, zl_0, zl_1, zl_61, zl_65, zl_90, zl_99, zl_126, mF_len, mg_0, mg_1, mg_2, mg_3, mg_4, mg_5, mg_6, mg_7, mg_8, mg_9, mg_10, mg_11, mg_12, mg_13, mg_14, mg_15, mg_16, mg_17, mg_18, mg_19, mg_20, mg_21, mg_22, mg_23, mg_24, mg_25, mg_26, mg_27, mg_28, mg_29, mg_30, mg_31, mg_32, mg_33, mg_34, mg_35, mg_36, mg_37, mg_38, ms_0, ms_1, ms_2, ms_13, ms_14, ms_15, ms_16, ms_21, ms_22, ms_23, ms_24, ms_28, ms_36, ms_37, ms_38, st_at, st_ne, st_st, st_swap, p0, p2, hm2, a5, mm, e5, ew, -List.filter_filter, -List.getElem?_map, -List.getD_eq_getElem?_getD]
        have FF : Fr ksL2 w w4 := F2.tr (b3.sub kT)
        have v3 := b5 3 (by decide) (by decide) (by decide)
        have v4 := b5 4 (by decide) (by decide) (by decide)
        have v5 := b5 5 (by decide) (by decide) (by decide)
        exact ⟨w4, m4, x4, b1, b2, FF, fun j hj => (b4 j (nL j hj).1 (nL j hj).2.2.1).trans (XL2 j hj), fun i i4 i5 i6 i7 i8 => (b5 i i6 i7 i8).trans (ML2 i i4 i5 i6 i7 i8), by omega, by rw [v4, v3, z3, y3]; exact a6, by omega, by omega, b6, b7, b8, b9, by omega, b11, b12, b13, fin w4 m4 x4 b1 FF (g57 w2 a13 _ g61)⟩
end LK
