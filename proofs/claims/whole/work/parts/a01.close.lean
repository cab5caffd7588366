/-! the class: a literal is closed -/

theorem FW.push {C : List (Int × List Int)} {x : Int × List Int} {S E B : List Int} (h : FW C S E B) (hx : ∀ j : Nat, j < x.2.length → gZ S ((flt C).length + j) = vc (x.2.getD j 0)) (hb : gZ B C.length = x.1) (hE : C.length < E.length) : FW (C ++ [x]) S (sZ E C.length ((flt C).length + x.2.length)) B := by
  have hl : (C ++ [x]).length = C.length + 1 := by simp
  have ef : flt (C ++ [x]) = flt C ++ x.2 := by rw [flt_app, flt_cons, flt_nil, List.append_nil]
  refine ⟨fun j hj => ?_, fun k hk => ?_, fun k hk => ?_⟩
  · rw [ef, List.length_append] at hj
    rw [ef, getD_app]
    by_cases hjt : j < (flt C).length
    · rw [if_pos hjt]
      exact h.1 j hjt
    · rw [if_neg hjt]
      have := hx (j - (flt C).length) (by omega)
      rw [show ((flt C).length : Int) + ((j - (flt C).length : Nat) : Int) = (j : Int) by omega] at this
      exact this
  · rw [hl] at hk
    rw [gZ_sZ (by omega) (by omega) (by omega)]
    by_cases hkc : k < C.length
    · rw [if_neg (by omega), stC_app (by omega)]
      exact h.2.1 k hkc
    · have : k = C.length := by omega
      subst this
      rw [if_pos rfl, show C.length + 1 = (C ++ [x]).length by rw [hl], stC_all, ef, List.length_append]
      omega
  · rw [hl] at hk
    by_cases hkc : k < C.length
    · rw [lC_app hkc]
      exact h.2.2 k hkc
    · have : k = C.length := by omega
      subst this
      rw [lC_end]
      exact hb
theorem FW.pop {C D : List (Int × List Int)} {S E B : List Int} (h : FW (C ++ D) S E B) : FW C S E B := by
  refine ⟨fun j hj => ?_, fun k hk => ?_, fun k hk => ?_⟩
  · have := h.1 j (by rw [flt_app, List.length_append]; omega)
    rw [flt_app, getD_app, if_pos hj] at this
    exact this
  · have := h.2.1 k (by rw [List.length_append]; omega)
    rw [stC_app (by omega)] at this
    exact this
  · have := h.2.2 k (by rw [List.length_append]; omega)
    rw [lC_app hk] at this
    exact this
section CO
variable {w : Nat → xC} {N a : Nat} {S E B : List Int} {l o : Int} {C : List (Int × List Int)} {x : Int × List Int}
theorem l17 (d : Nat) (hf : fo w a S E B C.length l o) (hN : fN N a S E B) (hW : FW (C ++ [x]) S E B) (hg : gV (C ++ [x])) (el : l = (flt (C ++ [x])).length) (lS : (flt (C ++ [x])).length ≤ S.length) (lE : C.length + 1 ≤ E.length) (lB : C.length + 1 ≤ B.length) (o0 : 0 ≤ o) (o9 : o < 10000) : ∀ (r k : Nat) (lv : xL), k + r = C.length → c1 lv → x_lk lv 0 = some (.ref (a + 3)) → x_lk lv 1 = some (.int (iZ (k : Int))) → (x ∈ C.drop k → Gx q_k17 (d + 2) 26 (lv, [], hp w N) (some (.int (iZ 1)), hp (uH w a (fC a C.length o o)) N)) ∧ (¬ x ∈ C.drop k → ∃ lv', c1 lv' ∧ x_lk lv' 0 = some (.ref (a + 3)) ∧ ∀ res, Gx q_k17 (d + 2) 80 (lv', [], hp w N) res → Gx q_k17 (d + 2) 26 (lv, [], hp w N) res) := by
  have hl : (C ++ [x]).length = C.length + 1 := by simp
  have hf' := hf
  obtain ⟨fa, fs, fe, fg⟩ := hf'
  obtain ⟨na, ls, le, lg⟩ := id hN
  intro r
  induction r with
  | zero =>
    intro k lv hk hc l0 l1
    rw [List.drop_eq_nil_of_le (by omega)]
    refine ⟨fun z => (by cases z), fun _ => ⟨lv, hc, l0, fun res hg => Gx.run 20 Cs.tt (fun K _ => ?_) hg⟩⟩
    have ek : k = C.length := by omega
    subst ek
    have k9 : ((C.length : Nat) : Int) < 10000 := by omega
    simp (disch := first | (refine c1_id ?_; assumption) | (refine c1_st rfl ?_; repeat (first | assumption | refine c1_st rfl ?_)) | omega) [nx_l, nx_r, nx_n, x_st, x_push, x_bin, x_div, x_un, x_dup, x_pop, x_dup2, x_goto, x_ifeq, x_ifne, x_iflt, x_ifge, x_ifgt, x_ifle, x_iceq, x_icne, x_iclt, x_icge, x_icgt, x_icle, x_ifnull, x_ifnonnull, x_ldi, x_lda, x_sti, x_sta, x_iinc, x_gf, x_pf, x_ald, x_ast, x_aln, x_len, x_cl_, x_cv, x_cs, x_rc, x_r0, x_isT, x_oi, x_rv, x_ri, x_ra, Value.category, t17_0, t17_1, t17_4, t17_6, t17_9, t17_10, t17_11, t17_12, t17_15, t17_16, t17_19, t17_20, t17_23, t17_24, t17_25, t17_26, t17_27, t17_28, t17_31, t17_34, t17_35, t17_38, t17_39, t17_40, t17_41, t17_44, t17_45, t17_48, t17_49, t17_52, t17_53, t17_54, t17_55, t17_58, t17_61, t17_64, t17_65, t17_66, t17_69, t17_72, t17_73, t17_74, t17_77, t17_80, t17_81, t17_82, t17_85, t17_86, t17_87, t17_90, t17_91, t17_94, t17_96, t17_99, t17_100, t17_103, t17_105, t17_108, t17_109, t17_112, t17_113, lk_s, hp_get, hp_set, uH_at, uH_ne, uH_upd, uH_swap, iZ_add, iZ_sub, iZ_mul, iZ_neg, iZ_lt, iZ_le, iZ_eq, iZ_div, iZ_of, ix_Z, gZ_map, gZ_mapI, gZ_map', le_0, le_s, sZ_map, sZ_len, bZ_0, bZ_inj, bZ_t, bZ_f, nr_i, nr_0, nr_1, nr_b, ft_i, ft_b, ft_0, ft_1, zl_0, zl_1, zl_6, zl_40, l0, l1, fa, -List.filter_filter, -List.getElem?_map, -List.getD_eq_getElem?_getD]
  | succ r ih =>
    intro k lv hk hc l0 l1
    have hkC : k < C.length := by omega
    rw [drop_lC hkC]
    have b1 : ¬ (C.length : Int) ≤ (k : Int) := by omega
    have k9 : ((C.length : Nat) : Int) < 10000 := by omega
    have e1 := hW.2.2 k (by omega)
    have e2 := hW.2.2 C.length (by omega)
    rw [lC_app hkC] at e1
    rw [lC_end] at e2
    have s1 := (hg _ (lC_mem (C := C ++ [x]) (k := k) (by omega))).1
    have s2 := (hg _ (lC_mem (C := C ++ [x]) (k := C.length) (by omega))).1
    rw [lC_app hkC, ← e1] at s1
    rw [lC_end, ← e2] at s2
    have X := m18 d hf hN hW hg el lS (by omega) k C.length (by omega) (by omega)
    rw [lC_app hkC, lC_end] at X
    have C1 := c1_st (i := 1) (v := .int (iZ ((k : Int) + 1))) rfl hc
    have I := ih (k + 1) _ (by omega) C1 (by rw [lk_s hc]; exact l0) (by rw [lk_s hc]; rfl)
    by_cases hsg : (lC C k).1 = x.1
    · have hsg' : gZ B (k : Int) = gZ B (C.length : Int) := by rw [e1, e2]; exact hsg
      by_cases hat : (lC C k).2 = x.2
      · have hx : lC C k = x := Prod.ext hsg hat
        rw [decide_eq_true hat, bZ_t] at X
        refine ⟨fun _ => Gx.fin 60 X (fun K mm => ?_), fun z => absurd (by rw [hx]; exact List.mem_cons_self) z⟩
        rcases s2 with s2 | s2
        · rw [s2] at hsg'
          simp (disch := first | (refine c1_id ?_; assumption) | (refine c1_st rfl ?_; repeat (first | assumption | refine c1_st rfl ?_)) | omega) [nx_l, nx_r, nx_n, x_st, x_push, x_bin, x_div, x_un, x_dup, x_pop, x_dup2, x_goto, x_ifeq, x_ifne, x_iflt, x_ifge, x_ifgt, x_ifle, x_iceq, x_icne, x_iclt, x_icge, x_icgt, x_icle, x_ifnull, x_ifnonnull, x_ldi, x_lda, x_sti, x_sta, x_iinc, x_gf, x_pf, x_ald, x_ast, x_aln, x_len, x_cl_, x_cv, x_cs, x_rc, x_r0, x_isT, x_oi, x_rv, x_ri, x_ra, Value.category, t17_0, t17_1, t17_4, t17_6, t17_9, t17_10, t17_11, t17_12, t17_15, t17_16, t17_19, t17_20, t17_23, t17_24, t17_25, t17_26, t17_27, t17_28, t17_31, t17_34, t17_35, t17_38, t17_39, t17_40, t17_41, t17_44, t17_45, t17_48, t17_49, t17_52, t17_53, t17_54, t17_55, t17_58, t17_61, t17_64, t17_65, t17_66, t17_69, t17_72, t17_73, t17_74, t17_77, t17_80, t17_81, t17_82, t17_85, t17_86, t17_87, t17_90, t17_91, t17_94, t17_96, t17_99, t17_100, t17_103, t17_105, t17_108, t17_109, t17_112, t17_113, lk_s, hp_get, hp_set, uH_at, uH_ne, uH_upd, uH_swap, iZ_add, iZ_sub, iZ_mul, iZ_neg, iZ_lt, iZ_le, iZ_eq, iZ_div, iZ_of, ix_Z, gZ_map, gZ_mapI, gZ_map', le_0, le_s, sZ_map, sZ_len, bZ_0, bZ_inj, bZ_t, bZ_f, nr_i, nr_0, nr_1, nr_b, ft_i, ft_b, ft_0, ft_1, zl_0, zl_1, zl_6, zl_40, l0, l1, fa, fg, b1, hsg', s2, mm, fC, -List.filter_filter, -List.getElem?_map, -List.getD_eq_getElem?_getD]
        · rw [s2] at hsg'
          simp (disch := first | (refine c1_id ?_; assumption) | (refine c1_st rfl ?_; repeat (first | assumption | refine c1_st rfl ?_)) | omega) [nx_l, nx_r, nx_n, x_st, x_push, x_bin, x_div, x_un, x_dup, x_pop, x_dup2, x_goto, x_ifeq, x_ifne, x_iflt, x_ifge, x_ifgt, x_ifle, x_iceq, x_icne, x_iclt, x_icge, x_icgt, x_icle, x_ifnull, x_ifnonnull, x_ldi, x_lda, x_sti, x_sta, x_iinc, x_gf, x_pf, x_ald, x_ast, x_aln, x_len, x_cl_, x_cv, x_cs, x_rc, x_r0, x_isT, x_oi, x_rv, x_ri, x_ra, Value.category, t17_0, t17_1, t17_4, t17_6, t17_9, t17_10, t17_11, t17_12, t17_15, t17_16, t17_19, t17_20, t17_23, t17_24, t17_25, t17_26, t17_27, t17_28, t17_31, t17_34, t17_35, t17_38, t17_39, t17_40, t17_41, t17_44, t17_45, t17_48, t17_49, t17_52, t17_53, t17_54, t17_55, t17_58, t17_61, t17_64, t17_65, t17_66, t17_69, t17_72, t17_73, t17_74, t17_77, t17_80, t17_81, t17_82, t17_85, t17_86, t17_87, t17_90, t17_91, t17_94, t17_96, t17_99, t17_100, t17_103, t17_105, t17_108, t17_109, t17_112, t17_113, lk_s, hp_get, hp_set, uH_at, uH_ne, uH_upd, uH_swap, iZ_add, iZ_sub, iZ_mul, iZ_neg, iZ_lt, iZ_le, iZ_eq, iZ_div, iZ_of, ix_Z, gZ_map, gZ_mapI, gZ_map', le_0, le_s, sZ_map, sZ_len, bZ_0, bZ_inj, bZ_t, bZ_f, nr_i, nr_0, nr_1, nr_b, ft_i, ft_b, ft_0, ft_1, zl_0, zl_1, zl_6, zl_40, l0, l1, fa, fg, b1, hsg', s2, mm, fC, -List.filter_filter, -List.getElem?_map, -List.getD_eq_getElem?_getD]
      · rw [decide_eq_false hat, bZ_f] at X
        have ne : lC C k ≠ x := fun z => hat (by rw [z])
        have g : ∀ res, Gx q_k17 (d + 2) 26 ((1, .int (iZ ((k : Int) + 1))) :: lv.filter (x_keep 1), [], hp w N) res → Gx q_k17 (d + 2) 26 (lv, [], hp w N) res := fun res hg => by
          refine Gx.run 60 X (fun K mm => ?_) hg
          rcases s2 with s2 | s2
          · rw [s2] at hsg'
            simp (disch := first | (refine c1_id ?_; assumption) | (refine c1_st rfl ?_; repeat (first | assumption | refine c1_st rfl ?_)) | omega) [nx_l, nx_r, nx_n, x_st, x_push, x_bin, x_div, x_un, x_dup, x_pop, x_dup2, x_goto, x_ifeq, x_ifne, x_iflt, x_ifge, x_ifgt, x_ifle, x_iceq, x_icne, x_iclt, x_icge, x_icgt, x_icle, x_ifnull, x_ifnonnull, x_ldi, x_lda, x_sti, x_sta, x_iinc, x_gf, x_pf, x_ald, x_ast, x_aln, x_len, x_cl_, x_cv, x_cs, x_rc, x_r0, x_isT, x_oi, x_rv, x_ri, x_ra, Value.category, t17_0, t17_1, t17_4, t17_6, t17_9, t17_10, t17_11, t17_12, t17_15, t17_16, t17_19, t17_20, t17_23, t17_24, t17_25, t17_26, t17_27, t17_28, t17_31, t17_34, t17_35, t17_38, t17_39, t17_40, t17_41, t17_44, t17_45, t17_48, t17_49, t17_52, t17_53, t17_54, t17_55, t17_58, t17_61, t17_64, t17_65, t17_66, t17_69, t17_72, t17_73, t17_74, t17_77, t17_80, t17_81, t17_82, t17_85, t17_86, t17_87, t17_90, t17_91, t17_94, t17_96, t17_99, t17_100, t17_103, t17_105, t17_108, t17_109, t17_112, t17_113, lk_s, hp_get, hp_set, uH_at, uH_ne, uH_upd, uH_swap, iZ_add, iZ_sub, iZ_mul, iZ_neg, iZ_lt, iZ_le, iZ_eq, iZ_div, iZ_of, ix_Z, gZ_map, gZ_mapI, gZ_map', le_0, le_s, sZ_map, sZ_len, bZ_0, bZ_inj, bZ_t, bZ_f, nr_i, nr_0, nr_1, nr_b, ft_i, ft_b, ft_0, ft_1, zl_0, zl_1, zl_6, zl_40, l0, l1, fa, fg, b1, hsg', s2, mm, -List.filter_filter, -List.getElem?_map, -List.getD_eq_getElem?_getD]
          · rw [s2] at hsg'
            simp (disch := first | (refine c1_id ?_; assumption) | (refine c1_st rfl ?_; repeat (first | assumption | refine c1_st rfl ?_)) | omega) [nx_l, nx_r, nx_n, x_st, x_push, x_bin, x_div, x_un, x_dup, x_pop, x_dup2, x_goto, x_ifeq, x_ifne, x_iflt, x_ifge, x_ifgt, x_ifle, x_iceq, x_icne, x_iclt, x_icge, x_icgt, x_icle, x_ifnull, x_ifnonnull, x_ldi, x_lda, x_sti, x_sta, x_iinc, x_gf, x_pf, x_ald, x_ast, x_aln, x_len, x_cl_, x_cv, x_cs, x_rc, x_r0, x_isT, x_oi, x_rv, x_ri, x_ra, Value.category, t17_0, t17_1, t17_4, t17_6, t17_9, t17_10, t17_11, t17_12, t17_15, t17_16, t17_19, t17_20, t17_23, t17_24, t17_25, t17_26, t17_27, t17_28, t17_31, t17_34, t17_35, t17_38, t17_39, t17_40, t17_41, t17_44, t17_45, t17_48, t17_49, t17_52, t17_53, t17_54, t17_55, t17_58, t17_61, t17_64, t17_65, t17_66, t17_69, t17_72, t17_73, t17_74, t17_77, t17_80, t17_81, t17_82, t17_85, t17_86, t17_87, t17_90, t17_91, t17_94, t17_96, t17_99, t17_100, t17_103, t17_105, t17_108, t17_109, t17_112, t17_113, lk_s, hp_get, hp_set, uH_at, uH_ne, uH_upd, uH_swap, iZ_add, iZ_sub, iZ_mul, iZ_neg, iZ_lt, iZ_le, iZ_eq, iZ_div, iZ_of, ix_Z, gZ_map, gZ_mapI, gZ_map', le_0, le_s, sZ_map, sZ_len, bZ_0, bZ_inj, bZ_t, bZ_f, nr_i, nr_0, nr_1, nr_b, ft_i, ft_b, ft_0, ft_1, zl_0, zl_1, zl_6, zl_40, l0, l1, fa, fg, b1, hsg', s2, mm, -List.filter_filter, -List.getElem?_map, -List.getD_eq_getElem?_getD]
        refine ⟨fun z => ?_, fun z => ?_⟩
        · rcases List.mem_cons.mp z with z | z
          · exact absurd z.symm ne
          · exact g _ (I.1 z)
        · obtain ⟨lv', h1, h2, h3⟩ := I.2 (fun q => z (List.mem_cons_of_mem _ q))
          exact ⟨lv', h1, h2, fun res hg => g _ (h3 res hg)⟩
    · have hsg' : ¬ gZ B (k : Int) = gZ B (C.length : Int) := by rw [e1, e2]; exact hsg
      have ne : lC C k ≠ x := fun z => hsg (by rw [z])
      have g : ∀ res, Gx q_k17 (d + 2) 26 ((1, .int (iZ ((k : Int) + 1))) :: lv.filter (x_keep 1), [], hp w N) res → Gx q_k17 (d + 2) 26 (lv, [], hp w N) res := fun res hg => by
        refine Gx.run 60 Cs.tt (fun K _ => ?_) hg
        rcases s1 with s1 | s1 <;> rcases s2 with s2 | s2
        · exact absurd (s1.trans s2.symm) hsg'
        · simp (disch := first | (refine c1_id ?_; assumption) | (refine c1_st rfl ?_; repeat (first | assumption | refine c1_st rfl ?_)) | omega) [nx_l, nx_r, nx_n, x_st, x_push, x_bin, x_div, x_un, x_dup, x_pop, x_dup2, x_goto, x_ifeq, x_ifne, x_iflt, x_ifge, x_ifgt, x_ifle, x_iceq, x_icne, x_iclt, x_icge, x_icgt, x_icle, x_ifnull, x_ifnonnull, x_ldi, x_lda, x_sti, x_sta, x_iinc, x_gf, x_pf, x_ald, x_ast, x_aln, x_len, x_cl_, x_cv, x_cs, x_rc, x_r0, x_isT, x_oi, x_rv, x_ri, x_ra, Value.category, t17_0, t17_1, t17_4, t17_6, t17_9, t17_10, t17_11, t17_12, t17_15, t17_16, t17_19, t17_20, t17_23, t17_24, t17_25, t17_26, t17_27, t17_28, t17_31, t17_34, t17_35, t17_38, t17_39, t17_40, t17_41, t17_44, t17_45, t17_48, t17_49, t17_52, t17_53, t17_54, t17_55, t17_58, t17_61, t17_64, t17_65, t17_66, t17_69, t17_72, t17_73, t17_74, t17_77, t17_80, t17_81, t17_82, t17_85, t17_86, t17_87, t17_90, t17_91, t17_94, t17_96, t17_99, t17_100, t17_103, t17_105, t17_108, t17_109, t17_112, t17_113, lk_s, hp_get, hp_set, uH_at, uH_ne, uH_upd, uH_swap, iZ_add, iZ_sub, iZ_mul, iZ_neg, iZ_lt, iZ_le, iZ_eq, iZ_div, iZ_of, ix_Z, gZ_map, gZ_mapI, gZ_map', le_0, le_s, sZ_map, sZ_len, bZ_0, bZ_inj, bZ_t, bZ_f, nr_i, nr_0, nr_1, nr_b, ft_i, ft_b, ft_0, ft_1, zl_0, zl_1, zl_6, zl_40, l0, l1, fa, fg, b1, s1, s2, -List.filter_filter, -List.getElem?_map, -List.getD_eq_getElem?_getD]
        · simp (disch := first | (refine c1_id ?_; assumption) | (refine c1_st rfl ?_; repeat (first | assumption | refine c1_st rfl ?_)) | omega) [nx_l, nx_r, nx_n, x_st, x_push, x_bin, x_div, x_un, x_dup, x_pop, x_dup2, x_goto, x_ifeq, x_ifne, x_iflt, x_ifge, x_ifgt, x_ifle, x_iceq, x_icne, x_iclt, x_icge, x_icgt, x_icle, x_ifnull, x_ifnonnull, x_ldi, x_lda, x_sti, x_sta, x_iinc, x_gf, x_pf, x_ald, x_ast, x_aln, x_len, x_cl_, x_cv, x_cs, x_rc, x_r0, x_isT, x_oi, x_rv, x_ri, x_ra, Value.category, t17_0, t17_1, t17_4, t17_6, t17_9, t17_10, t17_11, t17_12, t17_15, t17_16, t17_19, t17_20, t17_23, t17_24, t17_25, t17_26, t17_27, t17_28, t17_31, t17_34, t17_35, t17_38, t17_39, t17_40, t17_41, t17_44, t17_45, t17_48, t17_49, t17_52, t17_53, t17_54, t17_55, t17_58, t17_61, t17_64, t17_65, t17_66, t17_69, t17_72, t17_73, t17_74, t17_77, t17_80, t17_81, t17_82, t17_85, t17_86, t17_87, t17_90, t17_91, t17_94, t17_96, t17_99, t17_100, t17_103, t17_105, t17_108, t17_109, t17_112, t17_113, lk_s, hp_get, hp_set, uH_at, uH_ne, uH_upd, uH_swap, iZ_add, iZ_sub, iZ_mul, iZ_neg, iZ_lt, iZ_le, iZ_eq, iZ_div, iZ_of, ix_Z, gZ_map, gZ_mapI, gZ_map', le_0, le_s, sZ_map, sZ_len, bZ_0, bZ_inj, bZ_t, bZ_f, nr_i, nr_0, nr_1, nr_b, ft_i, ft_b, ft_0, ft_1, zl_0, zl_1, zl_6, zl_40, l0, l1, fa, fg, b1, s1, s2, -List.filter_filter, -List.getElem?_map, -List.getD_eq_getElem?_getD]
        · exact absurd (s1.trans s2.symm) hsg'
      refine ⟨fun z => ?_, fun z => ?_⟩
      · rcases List.mem_cons.mp z with z | z
        · exact absurd z.symm ne
        · exact g _ (I.1 z)
      · obtain ⟨lv', h1, h2, h3⟩ := I.2 (fun q => z (List.mem_cons_of_mem _ q))
        exact ⟨lv', h1, h2, fun res hg => g _ (h3 res hg)⟩
theorem m17 (d : Nat) (hf : fo w a S E B C.length l o) (hN : fN N a S E B) (hW : FW C S E B) (hg : gV (C ++ [x])) (hx : ∀ j : Nat, j < x.2.length → gZ S ((flt C).length + j) = vc (x.2.getD j 0)) (hb : gZ B C.length = x.1) (eo : o = (flt C).length) (el : l = (flt C).length + x.2.length) (lS : l ≤ S.length) (lE : E.length = 7) (lB : B.length = 7) (c6 : C.length ≤ 6) :
    ∃ E' : List Int, E'.length = 7 ∧ FW (adL C x) S E' B ∧ Xc (d + 3) 17 [.ref (a + 3)] (hp w N) (some (.int (iZ (bZ (decide (x ∈ C ∨ (C.length + 1 ≤ 6 ∧ l ≤ 40)))))), hp (uH (uH w a (fC a (adL C x).length (flt (adL C x)).length o)) (a + 2) (cI 0 E')) N) := by
  have hl : (C ++ [x]).length = C.length + 1 := by simp
  have ef : flt (C ++ [x]) = flt C ++ x.2 := by rw [flt_app, flt_cons, flt_nil, List.append_nil]
  have hW2 := hW.push hx hb (by omega)
  rw [← el] at hW2
  obtain ⟨E1, hE1⟩ : ∃ E1, E1 = sZ E C.length l := ⟨_, rfl⟩
  rw [← hE1] at hW2
  have nE1 : E1.length = 7 := by rw [hE1, sZ_len]; exact lE
  obtain ⟨fa, fs, fe, fg⟩ := id hf
  obtain ⟨na, ls, le, lg⟩ := id hN
  obtain ⟨w1, hw1⟩ : ∃ w1, w1 = uH w (a + 2) (cI 0 E1) := ⟨_, rfl⟩
  have hf1 : fo w1 a S E1 B C.length l o := by
    rw [hw1]
    exact ⟨by rw [uH_ne (by omega)]; exact fa, by rw [uH_ne (by omega)]; exact fs, uH_at _ _ _, by rw [uH_ne (by omega)]; exact fg⟩
  have hN1 : fN N a S E1 B := ⟨na, ls, by omega, lg⟩
  have hc : c1 (lv_args 0 [.ref (a + 3)]) := by simp [c1, lv_args, Value.category]
  have l0 : x_lk (lv_args 0 [.ref (a + 3)]) 0 = some (.ref (a + 3)) := rfl
  have C1 := c1_st (i := 1) (v := .int (iZ 0)) rfl hc
  have I := l17 d hf1 hN1 hW2 hg (by rw [ef, List.length_append]; omega) (by rw [ef, List.length_append]; omega) (by omega) (by omega) (by omega) (by omega) C.length 0 _ (by omega) C1 (by rw [lk_s hc]; exact l0) (by rw [lk_s hc]; rfl)
  rw [List.drop_zero] at I
  have c9 : (C.length : Int) ≤ 6 := by omega
  have c0 : (0 : Int) ≤ C.length := by omega
  have l9 : l < 10000 := by omega
  have l00 : 0 ≤ l := by omega
  have g0 : ∀ res, Gx q_k17 (d + 2) 26 ((1, .int (iZ 0)) :: List.filter (x_keep 1) (lv_args 0 [.ref (a + 3)]), [], hp w1 N) res → Gx q_k17 (d + 2) 0 (lv_args 0 [.ref (a + 3)], [], hp w N) res := fun res hg => by
    generalize lv_args 0 [.ref (a + 3)] = lv at hc l0 hg
    refine Gx.run 40 Cs.tt (fun K _ => ?_) hg
    rw [hw1, hE1]
    simp (disch := first | (refine c1_id ?_; assumption) | (refine c1_st rfl ?_; repeat (first | assumption | refine c1_st rfl ?_)) | omega) [nx_l, nx_r, nx_n, x_st, x_push, x_bin, x_div, x_un, x_dup, x_pop, x_dup2, x_goto, x_ifeq, x_ifne, x_iflt, x_ifge, x_ifgt, x_ifle, x_iceq, x_icne, x_iclt, x_icge, x_icgt, x_icle, x_ifnull, x_ifnonnull, x_ldi, x_lda, x_sti, x_sta, x_iinc, x_gf, x_pf, x_ald, x_ast, x_aln, x_len, x_cl_, x_cv, x_cs, x_rc, x_r0, x_isT, x_oi, x_rv, x_ri, x_ra, Value.category, t17_0, t17_1, t17_4, t17_6, t17_9, t17_10, t17_11, t17_12, t17_15, t17_16, t17_19, t17_20, t17_23, t17_24, t17_25, t17_26, t17_27, t17_28, t17_31, t17_34, t17_35, t17_38, t17_39, t17_40, t17_41, t17_44, t17_45, t17_48, t17_49, t17_52, t17_53, t17_54, t17_55, t17_58, t17_61, t17_64, t17_65, t17_66, t17_69, t17_72, t17_73, t17_74, t17_77, t17_80, t17_81, t17_82, t17_85, t17_86, t17_87, t17_90, t17_91, t17_94, t17_96, t17_99, t17_100, t17_103, t17_105, t17_108, t17_109, t17_112, t17_113, lk_s, hp_get, hp_set, uH_at, uH_ne, uH_upd, uH_swap, iZ_add, iZ_sub, iZ_mul, iZ_neg, iZ_lt, iZ_le, iZ_eq, iZ_div, iZ_of, ix_Z, gZ_map, gZ_mapI, gZ_map', le_0, le_s, sZ_map, sZ_len, bZ_0, bZ_inj, bZ_t, bZ_f, nr_i, nr_0, nr_1, nr_b, ft_i, ft_b, ft_0, ft_1, zl_0, zl_1, zl_6, zl_40, l0, fa, fe, c9, -List.filter_filter, -List.getElem?_map, -List.getD_eq_getElem?_getD]
  by_cases hm : x ∈ C
  · have ea : adL C x = C := if_pos hm
    rw [ea, decide_eq_true (Or.inl hm), ← eo]
    refine ⟨E1, nE1, hW2.pop, Xc.of rfl (by simp [lg_sl, Value.category]) (g0 _ ?_) ?_⟩
    · have := I.1 hm
      have ew : uH w1 a (fC a C.length o o) = uH (uH w a (fC a C.length o o)) (a + 2) (cI 0 E1) := by
        rw [hw1]
        funext j
        unfold uH
        by_cases j1 : j = a
        · rw [if_pos j1, if_neg (by omega), if_pos j1]
        · rw [if_neg j1]
          split
          · rfl
          · rfl
      rw [ew] at this
      exact this
    · exact hp_le (Nat.le_refl _) (fun j _ => by (simp only [uH]; repeat' split) <;> simp_all [x_c1, sZ_len, fC])
  · have ea : adL C x = C ++ [x] := if_neg hm
    obtain ⟨lv', h1, h2, h3⟩ := I.2 hm
    rw [ea, hl, ef, List.length_append]
    have el' : (((flt C).length + x.2.length : Nat) : Int) = l := by omega
    rw [el']
    refine ⟨E1, nE1, hW2, Xc.of rfl (by simp [lg_sl, Value.category]) (g0 _ (h3 _ ?_)) ?_⟩
    · have ew : uH (uH w a (fC a ((C.length + 1 : Nat) : Int) l o)) (a + 2) (cI 0 E1) = uH w1 a (fC a ((C.length + 1 : Nat) : Int) l o) := by
        rw [hw1]
        funext j
        unfold uH
        by_cases j1 : j = a
        · rw [if_pos j1, if_neg (by omega), if_pos j1]
        · rw [if_neg j1]
          split
          · rfl
          · rfl
      rw [ew, show ((C.length + 1 : Nat) : Int) = (C.length : Int) + 1 by omega]
      obtain ⟨fa1, fs1, fe1, fg1⟩ := hf1
      refine Gx.fin 60 Cs.tt (fun K _ => ?_)
      obtain ⟨n, hn⟩ : ∃ n : Int, n = (C.length : Int) := ⟨_, rfl⟩
      by_cases b1 : 6 < n + 1
      · rw [decide_eq_false (fun z => by
          rcases z with z | z
          · exact hm z
          · omega)]
        rw [← hn] at fa1 c9 c0 ⊢
        simp (disch := first | (refine c1_id ?_; assumption) | (refine c1_st rfl ?_; repeat (first | assumption | refine c1_st rfl ?_)) | omega) [nx_l, nx_r, nx_n, x_st, x_push, x_bin, x_div, x_un, x_dup, x_pop, x_dup2, x_goto, x_ifeq, x_ifne, x_iflt, x_ifge, x_ifgt, x_ifle, x_iceq, x_icne, x_iclt, x_icge, x_icgt, x_icle, x_ifnull, x_ifnonnull, x_ldi, x_lda, x_sti, x_sta, x_iinc, x_gf, x_pf, x_ald, x_ast, x_aln, x_len, x_cl_, x_cv, x_cs, x_rc, x_r0, x_isT, x_oi, x_rv, x_ri, x_ra, Value.category, t17_0, t17_1, t17_4, t17_6, t17_9, t17_10, t17_11, t17_12, t17_15, t17_16, t17_19, t17_20, t17_23, t17_24, t17_25, t17_26, t17_27, t17_28, t17_31, t17_34, t17_35, t17_38, t17_39, t17_40, t17_41, t17_44, t17_45, t17_48, t17_49, t17_52, t17_53, t17_54, t17_55, t17_58, t17_61, t17_64, t17_65, t17_66, t17_69, t17_72, t17_73, t17_74, t17_77, t17_80, t17_81, t17_82, t17_85, t17_86, t17_87, t17_90, t17_91, t17_94, t17_96, t17_99, t17_100, t17_103, t17_105, t17_108, t17_109, t17_112, t17_113, lk_s, hp_get, hp_set, uH_at, uH_ne, uH_upd, uH_swap, iZ_add, iZ_sub, iZ_mul, iZ_neg, iZ_lt, iZ_le, iZ_eq, iZ_div, iZ_of, ix_Z, gZ_map, gZ_mapI, gZ_map', le_0, le_s, sZ_map, sZ_len, bZ_0, bZ_inj, bZ_t, bZ_f, nr_i, nr_0, nr_1, nr_b, ft_i, ft_b, ft_0, ft_1, zl_0, zl_1, zl_6, zl_40, h2, fa1, b1, fC, -List.filter_filter, -List.getElem?_map, -List.getD_eq_getElem?_getD]
      · by_cases b2 : 40 < l
        · rw [decide_eq_false (fun z => by
            rcases z with z | z
            · exact hm z
            · omega)]
          rw [← hn] at fa1 c9 c0 ⊢
          simp (disch := first | (refine c1_id ?_; assumption) | (refine c1_st rfl ?_; repeat (first | assumption | refine c1_st rfl ?_)) | omega) [nx_l, nx_r, nx_n, x_st, x_push, x_bin, x_div, x_un, x_dup, x_pop, x_dup2, x_goto, x_ifeq, x_ifne, x_iflt, x_ifge, x_ifgt, x_ifle, x_iceq, x_icne, x_iclt, x_icge, x_icgt, x_icle, x_ifnull, x_ifnonnull, x_ldi, x_lda, x_sti, x_sta, x_iinc, x_gf, x_pf, x_ald, x_ast, x_aln, x_len, x_cl_, x_cv, x_cs, x_rc, x_r0, x_isT, x_oi, x_rv, x_ri, x_ra, Value.category, t17_0, t17_1, t17_4, t17_6, t17_9, t17_10, t17_11, t17_12, t17_15, t17_16, t17_19, t17_20, t17_23, t17_24, t17_25, t17_26, t17_27, t17_28, t17_31, t17_34, t17_35, t17_38, t17_39, t17_40, t17_41, t17_44, t17_45, t17_48, t17_49, t17_52, t17_53, t17_54, t17_55, t17_58, t17_61, t17_64, t17_65, t17_66, t17_69, t17_72, t17_73, t17_74, t17_77, t17_80, t17_81, t17_82, t17_85, t17_86, t17_87, t17_90, t17_91, t17_94, t17_96, t17_99, t17_100, t17_103, t17_105, t17_108, t17_109, t17_112, t17_113, lk_s, hp_get, hp_set, uH_at, uH_ne, uH_upd, uH_swap, iZ_add, iZ_sub, iZ_mul, iZ_neg, iZ_lt, iZ_le, iZ_eq, iZ_div, iZ_of, ix_Z, gZ_map, gZ_mapI, gZ_map', le_0, le_s, sZ_map, sZ_len, bZ_0, bZ_inj, bZ_t, bZ_f, nr_i, nr_0, nr_1, nr_b, ft_i, ft_b, ft_0, ft_1, zl_0, zl_1, zl_6, zl_40, h2, fa1, b1, b2, fC, -List.filter_filter, -List.getElem?_map, -List.getD_eq_getElem?_getD]
        · rw [decide_eq_true (Or.inr (by omega))]
          rw [← hn] at fa1 c9 c0 ⊢
          simp (disch := first | (refine c1_id ?_; assumption) | (refine c1_st rfl ?_; repeat (first | assumption | refine c1_st rfl ?_)) | omega) [nx_l, nx_r, nx_n, x_st, x_push, x_bin, x_div, x_un, x_dup, x_pop, x_dup2, x_goto, x_ifeq, x_ifne, x_iflt, x_ifge, x_ifgt, x_ifle, x_iceq, x_icne, x_iclt, x_icge, x_icgt, x_icle, x_ifnull, x_ifnonnull, x_ldi, x_lda, x_sti, x_sta, x_iinc, x_gf, x_pf, x_ald, x_ast, x_aln, x_len, x_cl_, x_cv, x_cs, x_rc, x_r0, x_isT, x_oi, x_rv, x_ri, x_ra, Value.category, t17_0, t17_1, t17_4, t17_6, t17_9, t17_10, t17_11, t17_12, t17_15, t17_16, t17_19, t17_20, t17_23, t17_24, t17_25, t17_26, t17_27, t17_28, t17_31, t17_34, t17_35, t17_38, t17_39, t17_40, t17_41, t17_44, t17_45, t17_48, t17_49, t17_52, t17_53, t17_54, t17_55, t17_58, t17_61, t17_64, t17_65, t17_66, t17_69, t17_72, t17_73, t17_74, t17_77, t17_80, t17_81, t17_82, t17_85, t17_86, t17_87, t17_90, t17_91, t17_94, t17_96, t17_99, t17_100, t17_103, t17_105, t17_108, t17_109, t17_112, t17_113, lk_s, hp_get, hp_set, uH_at, uH_ne, uH_upd, uH_swap, iZ_add, iZ_sub, iZ_mul, iZ_neg, iZ_lt, iZ_le, iZ_eq, iZ_div, iZ_of, ix_Z, gZ_map, gZ_mapI, gZ_map', le_0, le_s, sZ_map, sZ_len, bZ_0, bZ_inj, bZ_t, bZ_f, nr_i, nr_0, nr_1, nr_b, ft_i, ft_b, ft_0, ft_1, zl_0, zl_1, zl_6, zl_40, h2, fa1, b1, b2, fC, -List.filter_filter, -List.getElem?_map, -List.getD_eq_getElem?_getD]
    · exact hp_le (Nat.le_refl _) (fun j _ => by (simp only [uH]; repeat' split) <;> simp_all [x_c1, sZ_len, fC])
end CO
