/-! the class: is a form always true; are two forms the same -/

theorem drop_gt {l : List Int} {k : Nat} (h : k < l.length) : l.drop k = l.getD k 0 :: l.drop (k + 1) := by
  rw [List.drop_eq_getElem_cons h, List.getD_eq_getElem?_getD, List.getElem?_eq_getElem h]
  rfl
section FT
variable {w : Nat → xC} {N a b : Nat} {S E B S2 E2 B2 : List Int} {o o2 : Int} {C D : List (Int × List Int)}
theorem l24i (d : Nat) (hf : fo w a S E B C.length (flt C).length o) (hN : fN N a S E B) (hW : FW C S E B) (hg : gV C) (lS : (flt C).length ≤ S.length) (lE : C.length ≤ E.length) (lB : C.length ≤ B.length) (k : Nat) (hk : k < C.length) : ∀ (r q : Nat) (lv : xL), q + r = k → c1 lv → x_lk lv 0 = some (.ref (a + 3)) → x_lk lv 1 = some (.int (iZ (k : Int))) → x_lk lv 2 = some (.int (iZ (q : Int))) → (trI C k r q false = true → Gx q_k24 (d + 2) 39 (lv, [], hp w N) (some (.int (iZ 1)), hp w N)) ∧ (trI C k r q false = false → ∃ lv', c1 lv' ∧ x_lk lv' 0 = some (.ref (a + 3)) ∧ x_lk lv' 1 = some (.int (iZ (k : Int))) ∧ ∀ res, Gx q_k24 (d + 2) 76 (lv', [], hp w N) res → Gx q_k24 (d + 2) 39 (lv, [], hp w N) res) := by
  obtain ⟨fa, fs, fe, fg⟩ := id hf
  obtain ⟨na, ls, le, lg⟩ := id hN
  have k9 : (k : Int) < 10000 := by omega
  intro r
  induction r with
  | zero =>
    intro q lv hq hc l0 l1 l2
    have ek : q = k := by omega
    subst ek
    refine ⟨fun z => (by cases z), fun _ => ⟨lv, hc, l0, l1, fun res hg => Gx.run 20 Cs.tt (fun K _ => ?_) hg⟩⟩
    simp (disch := first | (refine c1_id ?_; assumption) | (refine c1_st rfl ?_; repeat (first | assumption | refine c1_st rfl ?_)) | omega) [nx_l, nx_r, nx_n, x_st, x_push, x_bin, x_div, x_un, x_dup, x_pop, x_dup2, x_goto, x_ifeq, x_ifne, x_iflt, x_ifge, x_ifgt, x_ifle, x_iceq, x_icne, x_iclt, x_icge, x_icgt, x_icle, x_ifnull, x_ifnonnull, x_ldi, x_lda, x_sti, x_sta, x_iinc, x_gf, x_pf, x_ald, x_ast, x_aln, x_len, x_cl_, x_cv, x_cs, x_rc, x_r0, x_isT, x_oi, x_rv, x_ri, x_ra, Value.category, t24_0, t24_1, t24_2, t24_3, t24_4, t24_7, t24_10, t24_11, t24_14, t24_15, t24_16, t24_19, t24_20, t24_21, t24_24, t24_27, t24_28, t24_29, t24_32, t24_35, t24_36, t24_37, t24_38, t24_39, t24_40, t24_41, t24_44, t24_45, t24_48, t24_49, t24_50, t24_51, t24_54, t24_55, t24_56, t24_59, t24_60, t24_61, t24_62, t24_65, t24_68, t24_69, t24_70, t24_73, t24_76, t24_79, t24_82, t24_83, lk_s, hp_get, hp_set, uH_at, uH_ne, uH_upd, uH_swap, iZ_add, iZ_sub, iZ_mul, iZ_neg, iZ_lt, iZ_le, iZ_eq, iZ_div, iZ_of, ix_Z, gZ_map, gZ_mapI, gZ_map', le_0, le_s, sZ_map, sZ_len, bZ_0, bZ_inj, bZ_t, bZ_f, nr_i, nr_0, nr_1, nr_b, ft_i, ft_b, ft_0, ft_1, zl_0, zl_1, l0, l1, l2, -List.filter_filter, -List.getElem?_map, -List.getD_eq_getElem?_getD]
  | succ r ih =>
    intro q lv hq hc l0 l1 l2
    have hqC : q < C.length := by omega
    have b1 : ¬ (k : Int) ≤ (q : Int) := by omega
    have e1 := hW.2.2 q hqC
    have e2 := hW.2.2 k hk
    have s1 := (hg _ (lC_mem hqC)).1
    have s2 := (hg _ (lC_mem hk)).1
    rw [← e1] at s1
    rw [← e2] at s2
    have X := m18 d hf hN hW hg rfl lS lE q k hqC hk
    have C2 := c1_st (i := 2) (v := .int (iZ ((q : Int) + 1))) rfl hc
    have I := ih (q + 1) _ (by omega) C2 (by rw [lk_s hc]; exact l0) (by rw [lk_s hc]; exact l1) (by rw [lk_s hc]; rfl)
    have et : trI C k (r + 1) q false = trI C k r (q + 1) (opS C k q) := by
      show trI C k r (q + 1) (false || opS C k q) = _
      rw [Bool.false_or]
    rw [et]
    by_cases hsg : (lC C q).1 = (lC C k).1
    · have hsg' : gZ B (q : Int) = gZ B (k : Int) := by rw [e1, e2]; exact hsg
      have eo : opS C k q = false := decide_eq_false (fun z => z.1 hsg)
      rw [eo]
      have g : ∀ res, Gx q_k24 (d + 2) 39 ((2, .int (iZ ((q : Int) + 1))) :: lv.filter (x_keep 2), [], hp w N) res → Gx q_k24 (d + 2) 39 (lv, [], hp w N) res := fun res hg => by
        refine Gx.run 60 Cs.tt (fun K _ => ?_) hg
        rcases s2 with s2 | s2
        · rw [s2] at hsg'
          simp (disch := first | (refine c1_id ?_; assumption) | (refine c1_st rfl ?_; repeat (first | assumption | refine c1_st rfl ?_)) | omega) [nx_l, nx_r, nx_n, x_st, x_push, x_bin, x_div, x_un, x_dup, x_pop, x_dup2, x_goto, x_ifeq, x_ifne, x_iflt, x_ifge, x_ifgt, x_ifle, x_iceq, x_icne, x_iclt, x_icge, x_icgt, x_icle, x_ifnull, x_ifnonnull, x_ldi, x_lda, x_sti, x_sta, x_iinc, x_gf, x_pf, x_ald, x_ast, x_aln, x_len, x_cl_, x_cv, x_cs, x_rc, x_r0, x_isT, x_oi, x_rv, x_ri, x_ra, Value.category, t24_0, t24_1, t24_2, t24_3, t24_4, t24_7, t24_10, t24_11, t24_14, t24_15, t24_16, t24_19, t24_20, t24_21, t24_24, t24_27, t24_28, t24_29, t24_32, t24_35, t24_36, t24_37, t24_38, t24_39, t24_40, t24_41, t24_44, t24_45, t24_48, t24_49, t24_50, t24_51, t24_54, t24_55, t24_56, t24_59, t24_60, t24_61, t24_62, t24_65, t24_68, t24_69, t24_70, t24_73, t24_76, t24_79, t24_82, t24_83, lk_s, hp_get, hp_set, uH_at, uH_ne, uH_upd, uH_swap, iZ_add, iZ_sub, iZ_mul, iZ_neg, iZ_lt, iZ_le, iZ_eq, iZ_div, iZ_of, ix_Z, gZ_map, gZ_mapI, gZ_map', le_0, le_s, sZ_map, sZ_len, bZ_0, bZ_inj, bZ_t, bZ_f, nr_i, nr_0, nr_1, nr_b, ft_i, ft_b, ft_0, ft_1, zl_0, zl_1, l0, l1, l2, fa, fg, b1, hsg', s2, -List.filter_filter, -List.getElem?_map, -List.getD_eq_getElem?_getD]
        · rw [s2] at hsg'
          simp (disch := first | (refine c1_id ?_; assumption) | (refine c1_st rfl ?_; repeat (first | assumption | refine c1_st rfl ?_)) | omega) [nx_l, nx_r, nx_n, x_st, x_push, x_bin, x_div, x_un, x_dup, x_pop, x_dup2, x_goto, x_ifeq, x_ifne, x_iflt, x_ifge, x_ifgt, x_ifle, x_iceq, x_icne, x_iclt, x_icge, x_icgt, x_icle, x_ifnull, x_ifnonnull, x_ldi, x_lda, x_sti, x_sta, x_iinc, x_gf, x_pf, x_ald, x_ast, x_aln, x_len, x_cl_, x_cv, x_cs, x_rc, x_r0, x_isT, x_oi, x_rv, x_ri, x_ra, Value.category, t24_0, t24_1, t24_2, t24_3, t24_4, t24_7, t24_10, t24_11, t24_14, t24_15, t24_16, t24_19, t24_20, t24_21, t24_24, t24_27, t24_28, t24_29, t24_32, t24_35, t24_36, t24_37, t24_38, t24_39, t24_40, t24_41, t24_44, t24_45, t24_48, t24_49, t24_50, t24_51, t24_54, t24_55, t24_56, t24_59, t24_60, t24_61, t24_62, t24_65, t24_68, t24_69, t24_70, t24_73, t24_76, t24_79, t24_82, t24_83, lk_s, hp_get, hp_set, uH_at, uH_ne, uH_upd, uH_swap, iZ_add, iZ_sub, iZ_mul, iZ_neg, iZ_lt, iZ_le, iZ_eq, iZ_div, iZ_of, ix_Z, gZ_map, gZ_mapI, gZ_map', le_0, le_s, sZ_map, sZ_len, bZ_0, bZ_inj, bZ_t, bZ_f, nr_i, nr_0, nr_1, nr_b, ft_i, ft_b, ft_0, ft_1, zl_0, zl_1, l0, l1, l2, fa, fg, b1, hsg', s2, -List.filter_filter, -List.getElem?_map, -List.getD_eq_getElem?_getD]
      refine ⟨fun z => g _ (I.1 z), fun z => ?_⟩
      obtain ⟨lv', h1, h2, h3, h4⟩ := I.2 z
      exact ⟨lv', h1, h2, h3, fun res hg => g _ (h4 res hg)⟩
    · have hsg' : ¬ gZ B (q : Int) = gZ B (k : Int) := by rw [e1, e2]; exact hsg
      by_cases hat : (lC C q).2 = (lC C k).2
      · have eo : opS C k q = true := decide_eq_true ⟨hsg, hat⟩
        rw [eo, trI_t]
        rw [decide_eq_true hat, bZ_t] at X
        refine ⟨fun _ => Gx.fin 60 X (fun K mm => ?_), fun z => (by cases z)⟩
        rcases s1 with s1 | s1 <;> rcases s2 with s2 | s2
        · exact absurd (s1.trans s2.symm) hsg'
        · simp (disch := first | (refine c1_id ?_; assumption) | (refine c1_st rfl ?_; repeat (first | assumption | refine c1_st rfl ?_)) | omega) [nx_l, nx_r, nx_n, x_st, x_push, x_bin, x_div, x_un, x_dup, x_pop, x_dup2, x_goto, x_ifeq, x_ifne, x_iflt, x_ifge, x_ifgt, x_ifle, x_iceq, x_icne, x_iclt, x_icge, x_icgt, x_icle, x_ifnull, x_ifnonnull, x_ldi, x_lda, x_sti, x_sta, x_iinc, x_gf, x_pf, x_ald, x_ast, x_aln, x_len, x_cl_, x_cv, x_cs, x_rc, x_r0, x_isT, x_oi, x_rv, x_ri, x_ra, Value.category, t24_0, t24_1, t24_2, t24_3, t24_4, t24_7, t24_10, t24_11, t24_14, t24_15, t24_16, t24_19, t24_20, t24_21, t24_24, t24_27, t24_28, t24_29, t24_32, t24_35, t24_36, t24_37, t24_38, t24_39, t24_40, t24_41, t24_44, t24_45, t24_48, t24_49, t24_50, t24_51, t24_54, t24_55, t24_56, t24_59, t24_60, t24_61, t24_62, t24_65, t24_68, t24_69, t24_70, t24_73, t24_76, t24_79, t24_82, t24_83, lk_s, hp_get, hp_set, uH_at, uH_ne, uH_upd, uH_swap, iZ_add, iZ_sub, iZ_mul, iZ_neg, iZ_lt, iZ_le, iZ_eq, iZ_div, iZ_of, ix_Z, gZ_map, gZ_mapI, gZ_map', le_0, le_s, sZ_map, sZ_len, bZ_0, bZ_inj, bZ_t, bZ_f, nr_i, nr_0, nr_1, nr_b, ft_i, ft_b, ft_0, ft_1, zl_0, zl_1, l0, l1, l2, fa, fg, b1, s1, s2, mm, -List.filter_filter, -List.getElem?_map, -List.getD_eq_getElem?_getD]
        · simp (disch := first | (refine c1_id ?_; assumption) | (refine c1_st rfl ?_; repeat (first | assumption | refine c1_st rfl ?_)) | omega) [nx_l, nx_r, nx_n, x_st, x_push, x_bin, x_div, x_un, x_dup, x_pop, x_dup2, x_goto, x_ifeq, x_ifne, x_iflt, x_ifge, x_ifgt, x_ifle, x_iceq, x_icne, x_iclt, x_icge, x_icgt, x_icle, x_ifnull, x_ifnonnull, x_ldi, x_lda, x_sti, x_sta, x_iinc, x_gf, x_pf, x_ald, x_ast, x_aln, x_len, x_cl_, x_cv, x_cs, x_rc, x_r0, x_isT, x_oi, x_rv, x_ri, x_ra, Value.category, t24_0, t24_1, t24_2, t24_3, t24_4, t24_7, t24_10, t24_11, t24_14, t24_15, t24_16, t24_19, t24_20, t24_21, t24_24, t24_27, t24_28, t24_29, t24_32, t24_35, t24_36, t24_37, t24_38, t24_39, t24_40, t24_41, t24_44, t24_45, t24_48, t24_49, t24_50, t24_51, t24_54, t24_55, t24_56, t24_59, t24_60, t24_61, t24_62, t24_65, t24_68, t24_69, t24_70, t24_73, t24_76, t24_79, t24_82, t24_83, lk_s, hp_get, hp_set, uH_at, uH_ne, uH_upd, uH_swap, iZ_add, iZ_sub, iZ_mul, iZ_neg, iZ_lt, iZ_le, iZ_eq, iZ_div, iZ_of, ix_Z, gZ_map, gZ_mapI, gZ_map', le_0, le_s, sZ_map, sZ_len, bZ_0, bZ_inj, bZ_t, bZ_f, nr_i, nr_0, nr_1, nr_b, ft_i, ft_b, ft_0, ft_1, zl_0, zl_1, l0, l1, l2, fa, fg, b1, s1, s2, mm, -List.filter_filter, -List.getElem?_map, -List.getD_eq_getElem?_getD]
        · exact absurd (s1.trans s2.symm) hsg'
      · have eo : opS C k q = false := decide_eq_false (fun z => hat z.2)
        rw [eo]
        rw [decide_eq_false hat, bZ_f] at X
        have g : ∀ res, Gx q_k24 (d + 2) 39 ((2, .int (iZ ((q : Int) + 1))) :: lv.filter (x_keep 2), [], hp w N) res → Gx q_k24 (d + 2) 39 (lv, [], hp w N) res := fun res hg => by
          refine Gx.run 60 X (fun K mm => ?_) hg
          rcases s1 with s1 | s1 <;> rcases s2 with s2 | s2
          · exact absurd (s1.trans s2.symm) hsg'
          · simp (disch := first | (refine c1_id ?_; assumption) | (refine c1_st rfl ?_; repeat (first | assumption | refine c1_st rfl ?_)) | omega) [nx_l, nx_r, nx_n, x_st, x_push, x_bin, x_div, x_un, x_dup, x_pop, x_dup2, x_goto, x_ifeq, x_ifne, x_iflt, x_ifge, x_ifgt, x_ifle, x_iceq, x_icne, x_iclt, x_icge, x_icgt, x_icle, x_ifnull, x_ifnonnull, x_ldi, x_lda, x_sti, x_sta, x_iinc, x_gf, x_pf, x_ald, x_ast, x_aln, x_len, x_cl_, x_cv, x_cs, x_rc, x_r0, x_isT, x_oi, x_rv, x_ri, x_ra, Value.category, t24_0, t24_1, t24_2, t24_3, t24_4, t24_7, t24_10, t24_11, t24_14, t24_15, t24_16, t24_19, t24_20, t24_21, t24_24, t24_27, t24_28, t24_29, t24_32, t24_35, t24_36, t24_37, t24_38, t24_39, t24_40, t24_41, t24_44, t24_45, t24_48, t24_49, t24_50, t24_51, t24_54, t24_55, t24_56, t24_59, t24_60, t24_61, t24_62, t24_65, t24_68, t24_69, t24_70, t24_73, t24_76, t24_79, t24_82, t24_83, lk_s, hp_get, hp_set, uH_at, uH_ne, uH_upd, uH_swap, iZ_add, iZ_sub, iZ_mul, iZ_neg, iZ_lt, iZ_le, iZ_eq, iZ_div, iZ_of, ix_Z, gZ_map, gZ_mapI, gZ_map', le_0, le_s, sZ_map, sZ_len, bZ_0, bZ_inj, bZ_t, bZ_f, nr_i, nr_0, nr_1, nr_b, ft_i, ft_b, ft_0, ft_1, zl_0, zl_1, l0, l1, l2, fa, fg, b1, s1, s2, mm, -List.filter_filter, -List.getElem?_map, -List.getD_eq_getElem?_getD]
          · simp (disch := first | (refine c1_id ?_; assumption) | (refine c1_st rfl ?_; repeat (first | assumption | refine c1_st rfl ?_)) | omega) [nx_l, nx_r, nx_n, x_st, x_push, x_bin, x_div, x_un, x_dup, x_pop, x_dup2, x_goto, x_ifeq, x_ifne, x_iflt, x_ifge, x_ifgt, x_ifle, x_iceq, x_icne, x_iclt, x_icge, x_icgt, x_icle, x_ifnull, x_ifnonnull, x_ldi, x_lda, x_sti, x_sta, x_iinc, x_gf, x_pf, x_ald, x_ast, x_aln, x_len, x_cl_, x_cv, x_cs, x_rc, x_r0, x_isT, x_oi, x_rv, x_ri, x_ra, Value.category, t24_0, t24_1, t24_2, t24_3, t24_4, t24_7, t24_10, t24_11, t24_14, t24_15, t24_16, t24_19, t24_20, t24_21, t24_24, t24_27, t24_28, t24_29, t24_32, t24_35, t24_36, t24_37, t24_38, t24_39, t24_40, t24_41, t24_44, t24_45, t24_48, t24_49, t24_50, t24_51, t24_54, t24_55, t24_56, t24_59, t24_60, t24_61, t24_62, t24_65, t24_68, t24_69, t24_70, t24_73, t24_76, t24_79, t24_82, t24_83, lk_s, hp_get, hp_set, uH_at, uH_ne, uH_upd, uH_swap, iZ_add, iZ_sub, iZ_mul, iZ_neg, iZ_lt, iZ_le, iZ_eq, iZ_div, iZ_of, ix_Z, gZ_map, gZ_mapI, gZ_map', le_0, le_s, sZ_map, sZ_len, bZ_0, bZ_inj, bZ_t, bZ_f, nr_i, nr_0, nr_1, nr_b, ft_i, ft_b, ft_0, ft_1, zl_0, zl_1, l0, l1, l2, fa, fg, b1, s1, s2, mm, -List.filter_filter, -List.getElem?_map, -List.getD_eq_getElem?_getD]
          · exact absurd (s1.trans s2.symm) hsg'
        refine ⟨fun z => g _ (I.1 z), fun z => ?_⟩
        obtain ⟨lv', h1, h2, h3, h4⟩ := I.2 z
        exact ⟨lv', h1, h2, h3, fun res hg => g _ (h4 res hg)⟩
theorem s24 (d : Nat) (hf : fo w a S E B C.length (flt C).length o) (hN : fN N a S E B) (hW : FW C S E B) (hg : gV C) (hT : ∀ y ∈ C, Ts 1 y.2) (lS : (flt C).length ≤ S.length) (lE : C.length ≤ E.length) (lB : C.length ≤ B.length) (k : Nat) (hk : k < C.length) (lv : xL) (hc : c1 lv) (l0 : x_lk lv 0 = some (.ref (a + 3))) (l1 : x_lk lv 1 = some (.int (iZ (k : Int)))) : ((decide ((lC C k).1 = 0) && eqS (lC C k).2) = true → Gx q_k24 (d + 3) 2 (lv, [], hp w N) (some (.int (iZ 1)), hp w N)) ∧ ((decide ((lC C k).1 = 0) && eqS (lC C k).2) = false → ∀ res, Gx q_k24 (d + 3) 37 (lv, [], hp w N) res → Gx q_k24 (d + 3) 2 (lv, [], hp w N) res) := by
  obtain ⟨fa, fs, fe, fg⟩ := id hf
  obtain ⟨na, ls, le, lg⟩ := id hN
  have b1 : ¬ (C.length : Int) ≤ (k : Int) := by omega
  have c9 : (C.length : Int) < 10000 := by omega
  have e2 := hW.2.2 k hk
  have s2 := (hg _ (lC_mem hk)).1
  have hTk := hT _ (lC_mem hk)
  have hpos := List.length_pos_iff.mpr (Ts_ne (n := 0) hTk)
  have mk := stC_mono (C := C) (show k + 1 ≤ C.length from hk)
  rw [stC_all, stC_succ hk] at mk
  have e0 := hW.at hk hpos
  rw [show (stC C k : Int) + ((0 : Nat) : Int) = (stC C k : Int) by omega] at e0
  have sg0 := (hg _ (lC_mem hk)).2 _ (getD_mem hpos)
  have rg0 := vc_rng sg0
  have X1 := m13 (d + 1) (k : Int) hf hN (by omega) (by omega) (by rw [hW.st (by omega)]; omega) (by rw [hW.st (by omega)]; omega) (by rw [hW.st (by omega), e0]; omega) (by rw [hW.st (by omega), e0]; omega)
  rw [hW.st (by omega), e0] at X1
  have ev : decide (vc ((lC C k).2.getD 0 0) = 106) = decide ((lC C k).2.getD 0 0 = 99) := by
    rw [Bool.eq_iff_iff, decide_eq_true_iff, decide_eq_true_iff]
    constructor
    · intro z
      exact vc_inj sg0 ⟨by decide, by decide, fun q => by omega⟩ (by rw [z]; rfl)
    · intro z
      rw [z]
      rfl
  rw [ev] at X1
  by_cases h1 : (lC C k).1 = 0
  · rw [decide_eq_true h1, Bool.true_and]
    rw [h1] at e2
    by_cases h99 : (lC C k).2.getD 0 0 = 99
    · rw [decide_eq_true h99, bZ_t] at X1
      have X2 := m25 d hf hN hW hg lS lE k hk hTk h99
      have ee : eqS (lC C k).2 = decide (tm (lC C k).2 1 = tm (lC C k).2 (1 + (tm (lC C k).2 1).length)) := by
        unfold eqS
        rw [Bool.eq_iff_iff, decide_eq_true_iff, decide_eq_true_iff]
        exact ⟨fun z => z.2, fun z => ⟨h99, z⟩⟩
      rw [ee]
      revert X2
      cases decide (tm (lC C k).2 1 = tm (lC C k).2 (1 + (tm (lC C k).2 1).length)) with
      | false =>
        intro X2
        rw [bZ_f] at X2
        refine ⟨fun z => (by cases z), fun _ res hg => Gx.run 60 (X1.and X2) (fun K mm => ?_) hg⟩
        obtain ⟨mm1, mm2⟩ := mm
        simp (disch := first | (refine c1_id ?_; assumption) | (refine c1_st rfl ?_; repeat (first | assumption | refine c1_st rfl ?_)) | omega) [nx_l, nx_r, nx_n, x_st, x_push, x_bin, x_div, x_un, x_dup, x_pop, x_dup2, x_goto, x_ifeq, x_ifne, x_iflt, x_ifge, x_ifgt, x_ifle, x_iceq, x_icne, x_iclt, x_icge, x_icgt, x_icle, x_ifnull, x_ifnonnull, x_ldi, x_lda, x_sti, x_sta, x_iinc, x_gf, x_pf, x_ald, x_ast, x_aln, x_len, x_cl_, x_cv, x_cs, x_rc, x_r0, x_isT, x_oi, x_rv, x_ri, x_ra, Value.category, t24_0, t24_1, t24_2, t24_3, t24_4, t24_7, t24_10, t24_11, t24_14, t24_15, t24_16, t24_19, t24_20, t24_21, t24_24, t24_27, t24_28, t24_29, t24_32, t24_35, t24_36, t24_37, t24_38, t24_39, t24_40, t24_41, t24_44, t24_45, t24_48, t24_49, t24_50, t24_51, t24_54, t24_55, t24_56, t24_59, t24_60, t24_61, t24_62, t24_65, t24_68, t24_69, t24_70, t24_73, t24_76, t24_79, t24_82, t24_83, lk_s, hp_get, hp_set, uH_at, uH_ne, uH_upd, uH_swap, iZ_add, iZ_sub, iZ_mul, iZ_neg, iZ_lt, iZ_le, iZ_eq, iZ_div, iZ_of, ix_Z, gZ_map, gZ_mapI, gZ_map', le_0, le_s, sZ_map, sZ_len, bZ_0, bZ_inj, bZ_t, bZ_f, nr_i, nr_0, nr_1, nr_b, ft_i, ft_b, ft_0, ft_1, zl_0, zl_1, l0, l1, fa, fg, e2, b1, mm1, mm2, -List.filter_filter, -List.getElem?_map, -List.getD_eq_getElem?_getD]
      | true =>
        intro X2
        rw [bZ_t] at X2
        refine ⟨fun _ => Gx.fin 60 (X1.and X2) (fun K mm => ?_), fun z => (by cases z)⟩
        obtain ⟨mm1, mm2⟩ := mm
        simp (disch := first | (refine c1_id ?_; assumption) | (refine c1_st rfl ?_; repeat (first | assumption | refine c1_st rfl ?_)) | omega) [nx_l, nx_r, nx_n, x_st, x_push, x_bin, x_div, x_un, x_dup, x_pop, x_dup2, x_goto, x_ifeq, x_ifne, x_iflt, x_ifge, x_ifgt, x_ifle, x_iceq, x_icne, x_iclt, x_icge, x_icgt, x_icle, x_ifnull, x_ifnonnull, x_ldi, x_lda, x_sti, x_sta, x_iinc, x_gf, x_pf, x_ald, x_ast, x_aln, x_len, x_cl_, x_cv, x_cs, x_rc, x_r0, x_isT, x_oi, x_rv, x_ri, x_ra, Value.category, t24_0, t24_1, t24_2, t24_3, t24_4, t24_7, t24_10, t24_11, t24_14, t24_15, t24_16, t24_19, t24_20, t24_21, t24_24, t24_27, t24_28, t24_29, t24_32, t24_35, t24_36, t24_37, t24_38, t24_39, t24_40, t24_41, t24_44, t24_45, t24_48, t24_49, t24_50, t24_51, t24_54, t24_55, t24_56, t24_59, t24_60, t24_61, t24_62, t24_65, t24_68, t24_69, t24_70, t24_73, t24_76, t24_79, t24_82, t24_83, lk_s, hp_get, hp_set, uH_at, uH_ne, uH_upd, uH_swap, iZ_add, iZ_sub, iZ_mul, iZ_neg, iZ_lt, iZ_le, iZ_eq, iZ_div, iZ_of, ix_Z, gZ_map, gZ_mapI, gZ_map', le_0, le_s, sZ_map, sZ_len, bZ_0, bZ_inj, bZ_t, bZ_f, nr_i, nr_0, nr_1, nr_b, ft_i, ft_b, ft_0, ft_1, zl_0, zl_1, l0, l1, fa, fg, e2, b1, mm1, mm2, -List.filter_filter, -List.getElem?_map, -List.getD_eq_getElem?_getD]
    · rw [decide_eq_false h99, bZ_f] at X1
      have ee : eqS (lC C k).2 = false := decide_eq_false (fun z => h99 z.1)
      rw [ee]
      refine ⟨fun z => (by cases z), fun _ res hg => Gx.run 60 X1 (fun K mm => ?_) hg⟩
      simp (disch := first | (refine c1_id ?_; assumption) | (refine c1_st rfl ?_; repeat (first | assumption | refine c1_st rfl ?_)) | omega) [nx_l, nx_r, nx_n, x_st, x_push, x_bin, x_div, x_un, x_dup, x_pop, x_dup2, x_goto, x_ifeq, x_ifne, x_iflt, x_ifge, x_ifgt, x_ifle, x_iceq, x_icne, x_iclt, x_icge, x_icgt, x_icle, x_ifnull, x_ifnonnull, x_ldi, x_lda, x_sti, x_sta, x_iinc, x_gf, x_pf, x_ald, x_ast, x_aln, x_len, x_cl_, x_cv, x_cs, x_rc, x_r0, x_isT, x_oi, x_rv, x_ri, x_ra, Value.category, t24_0, t24_1, t24_2, t24_3, t24_4, t24_7, t24_10, t24_11, t24_14, t24_15, t24_16, t24_19, t24_20, t24_21, t24_24, t24_27, t24_28, t24_29, t24_32, t24_35, t24_36, t24_37, t24_38, t24_39, t24_40, t24_41, t24_44, t24_45, t24_48, t24_49, t24_50, t24_51, t24_54, t24_55, t24_56, t24_59, t24_60, t24_61, t24_62, t24_65, t24_68, t24_69, t24_70, t24_73, t24_76, t24_79, t24_82, t24_83, lk_s, hp_get, hp_set, uH_at, uH_ne, uH_upd, uH_swap, iZ_add, iZ_sub, iZ_mul, iZ_neg, iZ_lt, iZ_le, iZ_eq, iZ_div, iZ_of, ix_Z, gZ_map, gZ_mapI, gZ_map', le_0, le_s, sZ_map, sZ_len, bZ_0, bZ_inj, bZ_t, bZ_f, nr_i, nr_0, nr_1, nr_b, ft_i, ft_b, ft_0, ft_1, zl_0, zl_1, l0, l1, fa, fg, e2, b1, mm, -List.filter_filter, -List.getElem?_map, -List.getD_eq_getElem?_getD]
  · rw [decide_eq_false h1, Bool.false_and]
    have h11 : (lC C k).1 = 1 := by
      rcases s2 with z | z
      · exact absurd z h1
      · exact z
    rw [h11] at e2
    refine ⟨fun z => (by cases z), fun _ res hg => Gx.run 60 Cs.tt (fun K _ => ?_) hg⟩
    simp (disch := first | (refine c1_id ?_; assumption) | (refine c1_st rfl ?_; repeat (first | assumption | refine c1_st rfl ?_)) | omega) [nx_l, nx_r, nx_n, x_st, x_push, x_bin, x_div, x_un, x_dup, x_pop, x_dup2, x_goto, x_ifeq, x_ifne, x_iflt, x_ifge, x_ifgt, x_ifle, x_iceq, x_icne, x_iclt, x_icge, x_icgt, x_icle, x_ifnull, x_ifnonnull, x_ldi, x_lda, x_sti, x_sta, x_iinc, x_gf, x_pf, x_ald, x_ast, x_aln, x_len, x_cl_, x_cv, x_cs, x_rc, x_r0, x_isT, x_oi, x_rv, x_ri, x_ra, Value.category, t24_0, t24_1, t24_2, t24_3, t24_4, t24_7, t24_10, t24_11, t24_14, t24_15, t24_16, t24_19, t24_20, t24_21, t24_24, t24_27, t24_28, t24_29, t24_32, t24_35, t24_36, t24_37, t24_38, t24_39, t24_40, t24_41, t24_44, t24_45, t24_48, t24_49, t24_50, t24_51, t24_54, t24_55, t24_56, t24_59, t24_60, t24_61, t24_62, t24_65, t24_68, t24_69, t24_70, t24_73, t24_76, t24_79, t24_82, t24_83, lk_s, hp_get, hp_set, uH_at, uH_ne, uH_upd, uH_swap, iZ_add, iZ_sub, iZ_mul, iZ_neg, iZ_lt, iZ_le, iZ_eq, iZ_div, iZ_of, ix_Z, gZ_map, gZ_mapI, gZ_map', le_0, le_s, sZ_map, sZ_len, bZ_0, bZ_inj, bZ_t, bZ_f, nr_i, nr_0, nr_1, nr_b, ft_i, ft_b, ft_0, ft_1, zl_0, zl_1, l0, l1, fa, fg, e2, b1, -List.filter_filter, -List.getElem?_map, -List.getD_eq_getElem?_getD]
theorem l24 (d : Nat) (hf : fo w a S E B C.length (flt C).length o) (hN : fN N a S E B) (hW : FW C S E B) (hg : gV C) (hT : ∀ y ∈ C, Ts 1 y.2) (lS : (flt C).length ≤ S.length) (lE : C.length ≤ E.length) (lB : C.length ≤ B.length) : ∀ (r k : Nat) (lv : xL), k + r = C.length → c1 lv → x_lk lv 0 = some (.ref (a + 3)) → x_lk lv 1 = some (.int (iZ (k : Int))) → Gx q_k24 (d + 3) 2 (lv, [], hp w N) (some (.int (iZ (bZ (trO C r k false)))), hp w N) := by
  obtain ⟨fa, fs, fe, fg⟩ := id hf
  obtain ⟨na, ls, le, lg⟩ := id hN
  have c9 : (C.length : Int) < 10000 := by omega
  intro r
  induction r with
  | zero =>
    intro k lv hk hc l0 l1
    have ek : k = C.length := by omega
    subst ek
    refine Gx.fin 20 Cs.tt (fun K _ => ?_)
    have e : trO C 0 C.length false = false := rfl
    rw [e]
    simp (disch := first | (refine c1_id ?_; assumption) | (refine c1_st rfl ?_; repeat (first | assumption | refine c1_st rfl ?_)) | omega) [nx_l, nx_r, nx_n, x_st, x_push, x_bin, x_div, x_un, x_dup, x_pop, x_dup2, x_goto, x_ifeq, x_ifne, x_iflt, x_ifge, x_ifgt, x_ifle, x_iceq, x_icne, x_iclt, x_icge, x_icgt, x_icle, x_ifnull, x_ifnonnull, x_ldi, x_lda, x_sti, x_sta, x_iinc, x_gf, x_pf, x_ald, x_ast, x_aln, x_len, x_cl_, x_cv, x_cs, x_rc, x_r0, x_isT, x_oi, x_rv, x_ri, x_ra, Value.category, t24_0, t24_1, t24_2, t24_3, t24_4, t24_7, t24_10, t24_11, t24_14, t24_15, t24_16, t24_19, t24_20, t24_21, t24_24, t24_27, t24_28, t24_29, t24_32, t24_35, t24_36, t24_37, t24_38, t24_39, t24_40, t24_41, t24_44, t24_45, t24_48, t24_49, t24_50, t24_51, t24_54, t24_55, t24_56, t24_59, t24_60, t24_61, t24_62, t24_65, t24_68, t24_69, t24_70, t24_73, t24_76, t24_79, t24_82, t24_83, lk_s, hp_get, hp_set, uH_at, uH_ne, uH_upd, uH_swap, iZ_add, iZ_sub, iZ_mul, iZ_neg, iZ_lt, iZ_le, iZ_eq, iZ_div, iZ_of, ix_Z, gZ_map, gZ_mapI, gZ_map', le_0, le_s, sZ_map, sZ_len, bZ_0, bZ_inj, bZ_t, bZ_f, nr_i, nr_0, nr_1, nr_b, ft_i, ft_b, ft_0, ft_1, zl_0, zl_1, l0, l1, fa, -List.filter_filter, -List.getElem?_map, -List.getD_eq_getElem?_getD]
  | succ r ih =>
    intro k lv hk hc l0 l1
    have hkC : k < C.length := by omega
    have et : trO C (r + 1) k false = trO C r (k + 1) (trI C k k 0 (decide ((lC C k).1 = 0) && eqS (lC C k).2)) := by
      show trO C r (k + 1) (trI C k k 0 (false || _)) = _
      rw [Bool.false_or]
    rw [et]
    have St := s24 d hf hN hW hg hT lS lE lB k hkC lv hc l0 l1
    cases h1 : (decide ((lC C k).1 = 0) && eqS (lC C k).2) with
    | true =>
      rw [trI_t, trO_t]
      exact St.1 h1
    | false =>
      have g2 := St.2 h1
      have C2 := c1_st (i := 2) (v := .int (iZ 0)) rfl hc
      have I := l24i (d + 1) hf hN hW hg lS lE lB k hkC k 0 _ (by omega) C2 (by rw [lk_s hc]; exact l0) (by rw [lk_s hc]; exact l1) (by rw [lk_s hc]; rfl)
      have g37 : ∀ res, Gx q_k24 (d + 3) 39 ((2, .int (iZ 0)) :: lv.filter (x_keep 2), [], hp w N) res → Gx q_k24 (d + 3) 37 (lv, [], hp w N) res := fun res hg => by
        refine Gx.run 20 Cs.tt (fun K _ => ?_) hg
        simp (disch := first | (refine c1_id ?_; assumption) | (refine c1_st rfl ?_; repeat (first | assumption | refine c1_st rfl ?_)) | omega) [nx_l, nx_r, nx_n, x_st, x_push, x_bin, x_div, x_un, x_dup, x_pop, x_dup2, x_goto, x_ifeq, x_ifne, x_iflt, x_ifge, x_ifgt, x_ifle, x_iceq, x_icne, x_iclt, x_icge, x_icgt, x_icle, x_ifnull, x_ifnonnull, x_ldi, x_lda, x_sti, x_sta, x_iinc, x_gf, x_pf, x_ald, x_ast, x_aln, x_len, x_cl_, x_cv, x_cs, x_rc, x_r0, x_isT, x_oi, x_rv, x_ri, x_ra, Value.category, t24_0, t24_1, t24_2, t24_3, t24_4, t24_7, t24_10, t24_11, t24_14, t24_15, t24_16, t24_19, t24_20, t24_21, t24_24, t24_27, t24_28, t24_29, t24_32, t24_35, t24_36, t24_37, t24_38, t24_39, t24_40, t24_41, t24_44, t24_45, t24_48, t24_49, t24_50, t24_51, t24_54, t24_55, t24_56, t24_59, t24_60, t24_61, t24_62, t24_65, t24_68, t24_69, t24_70, t24_73, t24_76, t24_79, t24_82, t24_83, lk_s, hp_get, hp_set, uH_at, uH_ne, uH_upd, uH_swap, iZ_add, iZ_sub, iZ_mul, iZ_neg, iZ_lt, iZ_le, iZ_eq, iZ_div, iZ_of, ix_Z, gZ_map, gZ_mapI, gZ_map', le_0, le_s, sZ_map, sZ_len, bZ_0, bZ_inj, bZ_t, bZ_f, nr_i, nr_0, nr_1, nr_b, ft_i, ft_b, ft_0, ft_1, zl_0, zl_1, l0, -List.filter_filter, -List.getElem?_map, -List.getD_eq_getElem?_getD]
      cases h2 : trI C k k 0 false with
      | true =>
        rw [trO_t]
        exact g2 _ (g37 _ (I.1 h2))
      | false =>
        obtain ⟨lv', j1, j2, j3, j4⟩ := I.2 h2
        have D1 := c1_st (i := 1) (v := .int (iZ ((k : Int) + 1))) rfl j1
        have g := ih (k + 1) _ (by omega) D1 (by rw [lk_s j1]; exact j2) (by rw [lk_s j1]; rfl)
        refine g2 _ (g37 _ (j4 _ (Gx.run 20 Cs.tt (fun K _ => ?_) g)))
        simp (disch := first | (refine c1_id ?_; assumption) | (refine c1_st rfl ?_; repeat (first | assumption | refine c1_st rfl ?_)) | omega) [nx_l, nx_r, nx_n, x_st, x_push, x_bin, x_div, x_un, x_dup, x_pop, x_dup2, x_goto, x_ifeq, x_ifne, x_iflt, x_ifge, x_ifgt, x_ifle, x_iceq, x_icne, x_iclt, x_icge, x_icgt, x_icle, x_ifnull, x_ifnonnull, x_ldi, x_lda, x_sti, x_sta, x_iinc, x_gf, x_pf, x_ald, x_ast, x_aln, x_len, x_cl_, x_cv, x_cs, x_rc, x_r0, x_isT, x_oi, x_rv, x_ri, x_ra, Value.category, t24_0, t24_1, t24_2, t24_3, t24_4, t24_7, t24_10, t24_11, t24_14, t24_15, t24_16, t24_19, t24_20, t24_21, t24_24, t24_27, t24_28, t24_29, t24_32, t24_35, t24_36, t24_37, t24_38, t24_39, t24_40, t24_41, t24_44, t24_45, t24_48, t24_49, t24_50, t24_51, t24_54, t24_55, t24_56, t24_59, t24_60, t24_61, t24_62, t24_65, t24_68, t24_69, t24_70, t24_73, t24_76, t24_79, t24_82, t24_83, lk_s, hp_get, hp_set, uH_at, uH_ne, uH_upd, uH_swap, iZ_add, iZ_sub, iZ_mul, iZ_neg, iZ_lt, iZ_le, iZ_eq, iZ_div, iZ_of, ix_Z, gZ_map, gZ_mapI, gZ_map', le_0, le_s, sZ_map, sZ_len, bZ_0, bZ_inj, bZ_t, bZ_f, nr_i, nr_0, nr_1, nr_b, ft_i, ft_b, ft_0, ft_1, zl_0, zl_1, j2, j3, -List.filter_filter, -List.getElem?_map, -List.getD_eq_getElem?_getD]
theorem m24 (d : Nat) (hf : fo w a S E B C.length (flt C).length o) (hN : fN N a S E B) (hW : FW C S E B) (hg : gV C) (hT : ∀ y ∈ C, Ts 1 y.2) (lS : (flt C).length ≤ S.length) (lE : C.length ≤ E.length) (lB : C.length ≤ B.length) : Xc (d + 4) 24 [.ref (a + 3)] (hp w N) (some (.int (iZ (bZ (trO C C.length 0 false)))), hp w N) := by
  refine Xc.of rfl (by simp [lg_sl, Value.category]) ?_ (x_le.rf)
  have hc : c1 (lv_args 0 [.ref (a + 3)]) := by simp [c1, lv_args, Value.category]
  have l0 : x_lk (lv_args 0 [.ref (a + 3)]) 0 = some (.ref (a + 3)) := rfl
  generalize lv_args 0 [.ref (a + 3)] = lv at hc l0
  have C1 := c1_st (i := 1) (v := .int (iZ 0)) rfl hc
  have g := l24 d hf hN hW hg hT lS lE lB C.length 0 _ (by omega) C1 (by rw [lk_s hc]; exact l0) (by rw [lk_s hc]; rfl)
  refine Gx.run 20 Cs.tt (fun K _ => ?_) g
  simp (disch := first | (refine c1_id ?_; assumption) | (refine c1_st rfl ?_; repeat (first | assumption | refine c1_st rfl ?_)) | omega) [nx_l, nx_r, nx_n, x_st, x_push, x_bin, x_div, x_un, x_dup, x_pop, x_dup2, x_goto, x_ifeq, x_ifne, x_iflt, x_ifge, x_ifgt, x_ifle, x_iceq, x_icne, x_iclt, x_icge, x_icgt, x_icle, x_ifnull, x_ifnonnull, x_ldi, x_lda, x_sti, x_sta, x_iinc, x_gf, x_pf, x_ald, x_ast, x_aln, x_len, x_cl_, x_cv, x_cs, x_rc, x_r0, x_isT, x_oi, x_rv, x_ri, x_ra, Value.category, t24_0, t24_1, t24_2, t24_3, t24_4, t24_7, t24_10, t24_11, t24_14, t24_15, t24_16, t24_19, t24_20, t24_21, t24_24, t24_27, t24_28, t24_29, t24_32, t24_35, t24_36, t24_37, t24_38, t24_39, t24_40, t24_41, t24_44, t24_45, t24_48, t24_49, t24_50, t24_51, t24_54, t24_55, t24_56, t24_59, t24_60, t24_61, t24_62, t24_65, t24_68, t24_69, t24_70, t24_73, t24_76, t24_79, t24_82, t24_83, lk_s, hp_get, hp_set, uH_at, uH_ne, uH_upd, uH_swap, iZ_add, iZ_sub, iZ_mul, iZ_neg, iZ_lt, iZ_le, iZ_eq, iZ_div, iZ_of, ix_Z, gZ_map, gZ_mapI, gZ_map', le_0, le_s, sZ_map, sZ_len, bZ_0, bZ_inj, bZ_t, bZ_f, nr_i, nr_0, nr_1, nr_b, ft_i, ft_b, ft_0, ft_1, zl_0, zl_1, l0, -List.filter_filter, -List.getElem?_map, -List.getD_eq_getElem?_getD]
/-- two forms, literal by literal -/
theorem l23a (d : Nat) (hf : fo w a S E B C.length (flt C).length o) (hN : fN N a S E B) (hW : FW C S E B) (hg : gV C) (hf2 : fo w b S2 E2 B2 D.length (flt D).length o2) (hN2 : fN N b S2 E2 B2) (hW2 : FW D S2 E2 B2) (hg2 : gV D) (lE : C.length ≤ E.length) (lB : C.length ≤ B.length) (lE2 : D.length ≤ E2.length) (lB2 : D.length ≤ B2.length) (f9 : (flt C).length < 10000) (g9 : (flt D).length < 10000) (hcd : C.length = D.length) : ∀ (r k : Nat) (lv : xL), k + r = C.length → c1 lv → x_lk lv 0 = some (.ref (a + 3)) → x_lk lv 1 = some (.ref (b + 3)) → x_lk lv 2 = some (.int (iZ (k : Int))) → ((∃ q, k ≤ q ∧ q < C.length ∧ ¬ (stC C (q + 1) = stC D (q + 1) ∧ (lC C q).1 = (lC D q).1)) → Gx q_k23 d 26 (lv, [], hp w N) (some (.int (iZ 0)), hp w N)) ∧ ((∀ q, k ≤ q → q < C.length → stC C (q + 1) = stC D (q + 1) ∧ (lC C q).1 = (lC D q).1) → ∃ lv', c1 lv' ∧ x_lk lv' 0 = some (.ref (a + 3)) ∧ x_lk lv' 1 = some (.ref (b + 3)) ∧ ∀ res, Gx q_k23 d 72 (lv', [], hp w N) res → Gx q_k23 d 26 (lv, [], hp w N) res) := by
  obtain ⟨fa, fs, fe, fg⟩ := id hf
  obtain ⟨na, ls, le, lg⟩ := id hN
  obtain ⟨fa2, fs2, fe2, fg2⟩ := id hf2
  obtain ⟨na2, ls2, le2, lg2⟩ := id hN2
  have c9 : (C.length : Int) < 10000 := by omega
  intro r
  induction r with
  | zero =>
    intro k lv hk hc l0 l1 l2
    have ek : k = C.length := by omega
    subst ek
    refine ⟨fun ⟨q, q0, q1, _⟩ => by omega, fun _ => ⟨lv, hc, l0, l1, fun res hg => Gx.run 20 Cs.tt (fun K _ => ?_) hg⟩⟩
    simp (disch := first | (refine c1_id ?_; assumption) | (refine c1_st rfl ?_; repeat (first | assumption | refine c1_st rfl ?_)) | omega) [nx_l, nx_r, nx_n, x_st, x_push, x_bin, x_div, x_un, x_dup, x_pop, x_dup2, x_goto, x_ifeq, x_ifne, x_iflt, x_ifge, x_ifgt, x_ifle, x_iceq, x_icne, x_iclt, x_icge, x_icgt, x_icle, x_ifnull, x_ifnonnull, x_ldi, x_lda, x_sti, x_sta, x_iinc, x_gf, x_pf, x_ald, x_ast, x_aln, x_len, x_cl_, x_cv, x_cs, x_rc, x_r0, x_isT, x_oi, x_rv, x_ri, x_ra, Value.category, t23_0, t23_1, t23_4, t23_5, t23_8, t23_11, t23_12, t23_15, t23_16, t23_19, t23_22, t23_23, t23_24, t23_25, t23_26, t23_27, t23_28, t23_31, t23_34, t23_35, t23_38, t23_39, t23_40, t23_41, t23_44, t23_45, t23_46, t23_49, t23_50, t23_53, t23_54, t23_55, t23_56, t23_59, t23_60, t23_61, t23_64, t23_65, t23_66, t23_69, t23_72, t23_73, t23_74, t23_75, t23_76, t23_79, t23_82, t23_83, t23_86, t23_87, t23_88, t23_89, t23_92, t23_93, t23_94, t23_97, t23_98, t23_99, t23_102, t23_105, t23_106, lk_s, hp_get, hp_set, uH_at, uH_ne, uH_upd, uH_swap, iZ_add, iZ_sub, iZ_mul, iZ_neg, iZ_lt, iZ_le, iZ_eq, iZ_div, iZ_of, ix_Z, gZ_map, gZ_mapI, gZ_map', le_0, le_s, sZ_map, sZ_len, bZ_0, bZ_inj, bZ_t, bZ_f, nr_i, nr_0, nr_1, nr_b, ft_i, ft_b, ft_0, ft_1, zl_0, zl_1, l0, l1, l2, fa, -List.filter_filter, -List.getElem?_map, -List.getD_eq_getElem?_getD]
  | succ r ih =>
    intro k lv hk hc l0 l1 l2
    have hkC : k < C.length := by omega
    have b1 : ¬ (C.length : Int) ≤ (k : Int) := by omega
    have e1 := hW.2.1 k hkC
    have e2 := hW2.2.1 k (by omega)
    have n1 := hW.2.2 k hkC
    have n2 := hW2.2.2 k (by omega)
    have s1 := (hg _ (lC_mem hkC)).1
    have s2 := (hg2 _ (lC_mem (show k < D.length by omega))).1
    rw [← n1] at s1
    rw [← n2] at s2
    have m1 := stC_mono (C := C) (show k + 1 ≤ C.length from hkC)
    have m2 := stC_mono (C := D) (show k + 1 ≤ D.length by omega)
    rw [stC_all] at m1 m2
    obtain ⟨u, hu⟩ : ∃ u : Int, u = (stC C (k + 1) : Int) := ⟨_, rfl⟩
    obtain ⟨v, hv⟩ : ∃ v : Int, v = (stC D (k + 1) : Int) := ⟨_, rfl⟩
    rw [← hu] at e1
    rw [← hv] at e2
    have u0 : 0 ≤ u := by omega
    have u9 : u < 10000 := by omega
    have v0 : 0 ≤ v := by omega
    have v9 : v < 10000 := by omega
    have C2 := c1_st (i := 2) (v := .int (iZ ((k : Int) + 1))) rfl hc
    have I := ih (k + 1) _ (by omega) C2 (by rw [lk_s hc]; exact l0) (by rw [lk_s hc]; exact l1) (by rw [lk_s hc]; rfl)
    by_cases huv : u = v
    · by_cases hsg : (lC C k).1 = (lC D k).1
      · have hsg' : gZ B (k : Int) = gZ B2 (k : Int) := by rw [n1, n2]; exact hsg
        have here : stC C (k + 1) = stC D (k + 1) ∧ (lC C k).1 = (lC D k).1 := ⟨by omega, hsg⟩
        subst huv
        have g : ∀ res, Gx q_k23 d 26 ((2, .int (iZ ((k : Int) + 1))) :: lv.filter (x_keep 2), [], hp w N) res → Gx q_k23 d 26 (lv, [], hp w N) res := fun res hg => by
          refine Gx.run 60 Cs.tt (fun K _ => ?_) hg
          rcases s2 with s2 | s2
          · rw [s2] at hsg'
            simp (disch := first | (refine c1_id ?_; assumption) | (refine c1_st rfl ?_; repeat (first | assumption | refine c1_st rfl ?_)) | omega) [nx_l, nx_r, nx_n, x_st, x_push, x_bin, x_div, x_un, x_dup, x_pop, x_dup2, x_goto, x_ifeq, x_ifne, x_iflt, x_ifge, x_ifgt, x_ifle, x_iceq, x_icne, x_iclt, x_icge, x_icgt, x_icle, x_ifnull, x_ifnonnull, x_ldi, x_lda, x_sti, x_sta, x_iinc, x_gf, x_pf, x_ald, x_ast, x_aln, x_len, x_cl_, x_cv, x_cs, x_rc, x_r0, x_isT, x_oi, x_rv, x_ri, x_ra, Value.category, t23_0, t23_1, t23_4, t23_5, t23_8, t23_11, t23_12, t23_15, t23_16, t23_19, t23_22, t23_23, t23_24, t23_25, t23_26, t23_27, t23_28, t23_31, t23_34, t23_35, t23_38, t23_39, t23_40, t23_41, t23_44, t23_45, t23_46, t23_49, t23_50, t23_53, t23_54, t23_55, t23_56, t23_59, t23_60, t23_61, t23_64, t23_65, t23_66, t23_69, t23_72, t23_73, t23_74, t23_75, t23_76, t23_79, t23_82, t23_83, t23_86, t23_87, t23_88, t23_89, t23_92, t23_93, t23_94, t23_97, t23_98, t23_99, t23_102, t23_105, t23_106, lk_s, hp_get, hp_set, uH_at, uH_ne, uH_upd, uH_swap, iZ_add, iZ_sub, iZ_mul, iZ_neg, iZ_lt, iZ_le, iZ_eq, iZ_div, iZ_of, ix_Z, gZ_map, gZ_mapI, gZ_map', le_0, le_s, sZ_map, sZ_len, bZ_0, bZ_inj, bZ_t, bZ_f, nr_i, nr_0, nr_1, nr_b, ft_i, ft_b, ft_0, ft_1, zl_0, zl_1, l0, l1, l2, fa, fe, fg, fa2, fe2, fg2, e1, e2, b1, hsg', s2, -List.filter_filter, -List.getElem?_map, -List.getD_eq_getElem?_getD]
          · rw [s2] at hsg'
            simp (disch := first | (refine c1_id ?_; assumption) | (refine c1_st rfl ?_; repeat (first | assumption | refine c1_st rfl ?_)) | omega) [nx_l, nx_r, nx_n, x_st, x_push, x_bin, x_div, x_un, x_dup, x_pop, x_dup2, x_goto, x_ifeq, x_ifne, x_iflt, x_ifge, x_ifgt, x_ifle, x_iceq, x_icne, x_iclt, x_icge, x_icgt, x_icle, x_ifnull, x_ifnonnull, x_ldi, x_lda, x_sti, x_sta, x_iinc, x_gf, x_pf, x_ald, x_ast, x_aln, x_len, x_cl_, x_cv, x_cs, x_rc, x_r0, x_isT, x_oi, x_rv, x_ri, x_ra, Value.category, t23_0, t23_1, t23_4, t23_5, t23_8, t23_11, t23_12, t23_15, t23_16, t23_19, t23_22, t23_23, t23_24, t23_25, t23_26, t23_27, t23_28, t23_31, t23_34, t23_35, t23_38, t23_39, t23_40, t23_41, t23_44, t23_45, t23_46, t23_49, t23_50, t23_53, t23_54, t23_55, t23_56, t23_59, t23_60, t23_61, t23_64, t23_65, t23_66, t23_69, t23_72, t23_73, t23_74, t23_75, t23_76, t23_79, t23_82, t23_83, t23_86, t23_87, t23_88, t23_89, t23_92, t23_93, t23_94, t23_97, t23_98, t23_99, t23_102, t23_105, t23_106, lk_s, hp_get, hp_set, uH_at, uH_ne, uH_upd, uH_swap, iZ_add, iZ_sub, iZ_mul, iZ_neg, iZ_lt, iZ_le, iZ_eq, iZ_div, iZ_of, ix_Z, gZ_map, gZ_mapI, gZ_map', le_0, le_s, sZ_map, sZ_len, bZ_0, bZ_inj, bZ_t, bZ_f, nr_i, nr_0, nr_1, nr_b, ft_i, ft_b, ft_0, ft_1, zl_0, zl_1, l0, l1, l2, fa, fe, fg, fa2, fe2, fg2, e1, e2, b1, hsg', s2, -List.filter_filter, -List.getElem?_map, -List.getD_eq_getElem?_getD]
        refine ⟨fun ⟨q, q0, q1, q2⟩ => ?_, fun z => ?_⟩
        · by_cases eq : q = k
          · subst eq
            exact absurd here q2
          · exact g _ (I.1 ⟨q, by omega, q1, q2⟩)
        · obtain ⟨lv', j1, j2, j3, j4⟩ := I.2 (fun q q0 q1 => z q (by omega) q1)
          exact ⟨lv', j1, j2, j3, fun res hg => g _ (j4 res hg)⟩
      · have hsg' : ¬ gZ B (k : Int) = gZ B2 (k : Int) := by rw [n1, n2]; exact hsg
        subst huv
        refine ⟨fun _ => Gx.fin 60 Cs.tt (fun K _ => ?_), fun z => absurd (z k (Nat.le_refl _) hkC).2 hsg⟩
        rcases s1 with s1 | s1 <;> rcases s2 with s2 | s2
        · exact absurd (s1.trans s2.symm) hsg'
        · simp (disch := first | (refine c1_id ?_; assumption) | (refine c1_st rfl ?_; repeat (first | assumption | refine c1_st rfl ?_)) | omega) [nx_l, nx_r, nx_n, x_st, x_push, x_bin, x_div, x_un, x_dup, x_pop, x_dup2, x_goto, x_ifeq, x_ifne, x_iflt, x_ifge, x_ifgt, x_ifle, x_iceq, x_icne, x_iclt, x_icge, x_icgt, x_icle, x_ifnull, x_ifnonnull, x_ldi, x_lda, x_sti, x_sta, x_iinc, x_gf, x_pf, x_ald, x_ast, x_aln, x_len, x_cl_, x_cv, x_cs, x_rc, x_r0, x_isT, x_oi, x_rv, x_ri, x_ra, Value.category, t23_0, t23_1, t23_4, t23_5, t23_8, t23_11, t23_12, t23_15, t23_16, t23_19, t23_22, t23_23, t23_24, t23_25, t23_26, t23_27, t23_28, t23_31, t23_34, t23_35, t23_38, t23_39, t23_40, t23_41, t23_44, t23_45, t23_46, t23_49, t23_50, t23_53, t23_54, t23_55, t23_56, t23_59, t23_60, t23_61, t23_64, t23_65, t23_66, t23_69, t23_72, t23_73, t23_74, t23_75, t23_76, t23_79, t23_82, t23_83, t23_86, t23_87, t23_88, t23_89, t23_92, t23_93, t23_94, t23_97, t23_98, t23_99, t23_102, t23_105, t23_106, lk_s, hp_get, hp_set, uH_at, uH_ne, uH_upd, uH_swap, iZ_add, iZ_sub, iZ_mul, iZ_neg, iZ_lt, iZ_le, iZ_eq, iZ_div, iZ_of, ix_Z, gZ_map, gZ_mapI, gZ_map', le_0, le_s, sZ_map, sZ_len, bZ_0, bZ_inj, bZ_t, bZ_f, nr_i, nr_0, nr_1, nr_b, ft_i, ft_b, ft_0, ft_1, zl_0, zl_1, l0, l1, l2, fa, fe, fg, fa2, fe2, fg2, e1, e2, b1, s1, s2, -List.filter_filter, -List.getElem?_map, -List.getD_eq_getElem?_getD]
        · simp (disch := first | (refine c1_id ?_; assumption) | (refine c1_st rfl ?_; repeat (first | assumption | refine c1_st rfl ?_)) | omega) [nx_l, nx_r, nx_n, x_st, x_push, x_bin, x_div, x_un, x_dup, x_pop, x_dup2, x_goto, x_ifeq, x_ifne, x_iflt, x_ifge, x_ifgt, x_ifle, x_iceq, x_icne, x_iclt, x_icge, x_icgt, x_icle, x_ifnull, x_ifnonnull, x_ldi, x_lda, x_sti, x_sta, x_iinc, x_gf, x_pf, x_ald, x_ast, x_aln, x_len, x_cl_, x_cv, x_cs, x_rc, x_r0, x_isT, x_oi, x_rv, x_ri, x_ra, Value.category, t23_0, t23_1, t23_4, t23_5, t23_8, t23_11, t23_12, t23_15, t23_16, t23_19, t23_22, t23_23, t23_24, t23_25, t23_26, t23_27, t23_28, t23_31, t23_34, t23_35, t23_38, t23_39, t23_40, t23_41, t23_44, t23_45, t23_46, t23_49, t23_50, t23_53, t23_54, t23_55, t23_56, t23_59, t23_60, t23_61, t23_64, t23_65, t23_66, t23_69, t23_72, t23_73, t23_74, t23_75, t23_76, t23_79, t23_82, t23_83, t23_86, t23_87, t23_88, t23_89, t23_92, t23_93, t23_94, t23_97, t23_98, t23_99, t23_102, t23_105, t23_106, lk_s, hp_get, hp_set, uH_at, uH_ne, uH_upd, uH_swap, iZ_add, iZ_sub, iZ_mul, iZ_neg, iZ_lt, iZ_le, iZ_eq, iZ_div, iZ_of, ix_Z, gZ_map, gZ_mapI, gZ_map', le_0, le_s, sZ_map, sZ_len, bZ_0, bZ_inj, bZ_t, bZ_f, nr_i, nr_0, nr_1, nr_b, ft_i, ft_b, ft_0, ft_1, zl_0, zl_1, l0, l1, l2, fa, fe, fg, fa2, fe2, fg2, e1, e2, b1, s1, s2, -List.filter_filter, -List.getElem?_map, -List.getD_eq_getElem?_getD]
        · exact absurd (s1.trans s2.symm) hsg'
    · refine ⟨fun _ => Gx.fin 60 Cs.tt (fun K _ => ?_), fun z => absurd (z k (Nat.le_refl _) hkC).1 (by omega)⟩
      simp (disch := first | (refine c1_id ?_; assumption) | (refine c1_st rfl ?_; repeat (first | assumption | refine c1_st rfl ?_)) | omega) [nx_l, nx_r, nx_n, x_st, x_push, x_bin, x_div, x_un, x_dup, x_pop, x_dup2, x_goto, x_ifeq, x_ifne, x_iflt, x_ifge, x_ifgt, x_ifle, x_iceq, x_icne, x_iclt, x_icge, x_icgt, x_icle, x_ifnull, x_ifnonnull, x_ldi, x_lda, x_sti, x_sta, x_iinc, x_gf, x_pf, x_ald, x_ast, x_aln, x_len, x_cl_, x_cv, x_cs, x_rc, x_r0, x_isT, x_oi, x_rv, x_ri, x_ra, Value.category, t23_0, t23_1, t23_4, t23_5, t23_8, t23_11, t23_12, t23_15, t23_16, t23_19, t23_22, t23_23, t23_24, t23_25, t23_26, t23_27, t23_28, t23_31, t23_34, t23_35, t23_38, t23_39, t23_40, t23_41, t23_44, t23_45, t23_46, t23_49, t23_50, t23_53, t23_54, t23_55, t23_56, t23_59, t23_60, t23_61, t23_64, t23_65, t23_66, t23_69, t23_72, t23_73, t23_74, t23_75, t23_76, t23_79, t23_82, t23_83, t23_86, t23_87, t23_88, t23_89, t23_92, t23_93, t23_94, t23_97, t23_98, t23_99, t23_102, t23_105, t23_106, lk_s, hp_get, hp_set, uH_at, uH_ne, uH_upd, uH_swap, iZ_add, iZ_sub, iZ_mul, iZ_neg, iZ_lt, iZ_le, iZ_eq, iZ_div, iZ_of, ix_Z, gZ_map, gZ_mapI, gZ_map', le_0, le_s, sZ_map, sZ_len, bZ_0, bZ_inj, bZ_t, bZ_f, nr_i, nr_0, nr_1, nr_b, ft_i, ft_b, ft_0, ft_1, zl_0, zl_1, l0, l1, l2, fa, fe, fa2, fe2, e1, e2, b1, huv, -List.filter_filter, -List.getElem?_map, -List.getD_eq_getElem?_getD]
theorem l23b (d : Nat) (hf : fo w a S E B C.length (flt C).length o) (hN : fN N a S E B) (hW : FW C S E B) (hg : gV C) (hf2 : fo w b S2 E2 B2 D.length (flt D).length o2) (hN2 : fN N b S2 E2 B2) (hW2 : FW D S2 E2 B2) (hg2 : gV D) (lS : (flt C).length ≤ S.length) (lS2 : (flt D).length ≤ S2.length) (hcd : (flt C).length = (flt D).length) : ∀ (r k : Nat) (lv : xL), k + r = (flt C).length → c1 lv → x_lk lv 0 = some (.ref (a + 3)) → x_lk lv 1 = some (.ref (b + 3)) → x_lk lv 2 = some (.int (iZ (k : Int))) → Gx q_k23 d 74 (lv, [], hp w N) (some (.int (iZ (bZ (decide ((flt C).drop k = (flt D).drop k))))), hp w N) := by
  obtain ⟨fa, fs, fe, fg⟩ := id hf
  obtain ⟨na, ls, le, lg⟩ := id hN
  obtain ⟨fa2, fs2, fe2, fg2⟩ := id hf2
  obtain ⟨na2, ls2, le2, lg2⟩ := id hN2
  have c9 : ((flt C).length : Int) < 10000 := by omega
  intro r
  induction r with
  | zero =>
    intro k lv hk hc l0 l1 l2
    have ek : k = (flt C).length := by omega
    subst ek
    rw [decide_eq_true (by rw [List.drop_length, List.drop_eq_nil_of_le (by omega)])]
    refine Gx.fin 20 Cs.tt (fun K _ => ?_)
    simp (disch := first | (refine c1_id ?_; assumption) | (refine c1_st rfl ?_; repeat (first | assumption | refine c1_st rfl ?_)) | omega) [nx_l, nx_r, nx_n, x_st, x_push, x_bin, x_div, x_un, x_dup, x_pop, x_dup2, x_goto, x_ifeq, x_ifne, x_iflt, x_ifge, x_ifgt, x_ifle, x_iceq, x_icne, x_iclt, x_icge, x_icgt, x_icle, x_ifnull, x_ifnonnull, x_ldi, x_lda, x_sti, x_sta, x_iinc, x_gf, x_pf, x_ald, x_ast, x_aln, x_len, x_cl_, x_cv, x_cs, x_rc, x_r0, x_isT, x_oi, x_rv, x_ri, x_ra, Value.category, t23_0, t23_1, t23_4, t23_5, t23_8, t23_11, t23_12, t23_15, t23_16, t23_19, t23_22, t23_23, t23_24, t23_25, t23_26, t23_27, t23_28, t23_31, t23_34, t23_35, t23_38, t23_39, t23_40, t23_41, t23_44, t23_45, t23_46, t23_49, t23_50, t23_53, t23_54, t23_55, t23_56, t23_59, t23_60, t23_61, t23_64, t23_65, t23_66, t23_69, t23_72, t23_73, t23_74, t23_75, t23_76, t23_79, t23_82, t23_83, t23_86, t23_87, t23_88, t23_89, t23_92, t23_93, t23_94, t23_97, t23_98, t23_99, t23_102, t23_105, t23_106, lk_s, hp_get, hp_set, uH_at, uH_ne, uH_upd, uH_swap, iZ_add, iZ_sub, iZ_mul, iZ_neg, iZ_lt, iZ_le, iZ_eq, iZ_div, iZ_of, ix_Z, gZ_map, gZ_mapI, gZ_map', le_0, le_s, sZ_map, sZ_len, bZ_0, bZ_inj, bZ_t, bZ_f, nr_i, nr_0, nr_1, nr_b, ft_i, ft_b, ft_0, ft_1, zl_0, zl_1, l0, l1, l2, fa, -List.filter_filter, -List.getElem?_map, -List.getD_eq_getElem?_getD]
  | succ r ih =>
    intro k lv hk hc l0 l1 l2
    have b1 : ¬ ((flt C).length : Int) ≤ (k : Int) := by omega
    have e1 := hW.1 k (by omega)
    have e2 := hW2.1 k (by omega)
    have g1 := hg.sg (j := k) (by omega)
    have g2 := hg2.sg (j := k) (by omega)
    have r1 := vc_rng g1
    have r2 := vc_rng g2
    have C2 := c1_st (i := 2) (v := .int (iZ ((k : Int) + 1))) rfl hc
    have I := ih (k + 1) _ (by omega) C2 (by rw [lk_s hc]; exact l0) (by rw [lk_s hc]; exact l1) (by rw [lk_s hc]; rfl)
    by_cases he : (flt C).getD k 0 = (flt D).getD k 0
    · have ed : decide ((flt C).drop k = (flt D).drop k) = decide ((flt C).drop (k + 1) = (flt D).drop (k + 1)) := by
        rw [Bool.eq_iff_iff, decide_eq_true_iff, decide_eq_true_iff]
        rw [drop_gt (by omega), drop_gt (l := flt D) (by omega), he, List.cons.injEq]
        exact ⟨fun z => z.2, fun z => ⟨rfl, z⟩⟩
      rw [ed]
      rw [← he] at e2
      obtain ⟨v, hv⟩ : ∃ v : Int, v = vc ((flt C).getD k 0) := ⟨_, rfl⟩
      rw [← hv] at e1 e2 r1
      refine Gx.run 60 Cs.tt (fun K _ => ?_) I
      simp (disch := first | (refine c1_id ?_; assumption) | (refine c1_st rfl ?_; repeat (first | assumption | refine c1_st rfl ?_)) | omega) [nx_l, nx_r, nx_n, x_st, x_push, x_bin, x_div, x_un, x_dup, x_pop, x_dup2, x_goto, x_ifeq, x_ifne, x_iflt, x_ifge, x_ifgt, x_ifle, x_iceq, x_icne, x_iclt, x_icge, x_icgt, x_icle, x_ifnull, x_ifnonnull, x_ldi, x_lda, x_sti, x_sta, x_iinc, x_gf, x_pf, x_ald, x_ast, x_aln, x_len, x_cl_, x_cv, x_cs, x_rc, x_r0, x_isT, x_oi, x_rv, x_ri, x_ra, Value.category, t23_0, t23_1, t23_4, t23_5, t23_8, t23_11, t23_12, t23_15, t23_16, t23_19, t23_22, t23_23, t23_24, t23_25, t23_26, t23_27, t23_28, t23_31, t23_34, t23_35, t23_38, t23_39, t23_40, t23_41, t23_44, t23_45, t23_46, t23_49, t23_50, t23_53, t23_54, t23_55, t23_56, t23_59, t23_60, t23_61, t23_64, t23_65, t23_66, t23_69, t23_72, t23_73, t23_74, t23_75, t23_76, t23_79, t23_82, t23_83, t23_86, t23_87, t23_88, t23_89, t23_92, t23_93, t23_94, t23_97, t23_98, t23_99, t23_102, t23_105, t23_106, lk_s, hp_get, hp_set, uH_at, uH_ne, uH_upd, uH_swap, iZ_add, iZ_sub, iZ_mul, iZ_neg, iZ_lt, iZ_le, iZ_eq, iZ_div, iZ_of, ix_Z, gZ_map, gZ_mapI, gZ_map', le_0, le_s, sZ_map, sZ_len, bZ_0, bZ_inj, bZ_t, bZ_f, nr_i, nr_0, nr_1, nr_b, ft_i, ft_b, ft_0, ft_1, zl_0, zl_1, l0, l1, l2, fa, fs, fa2, fs2, e1, e2, b1, -List.filter_filter, -List.getElem?_map, -List.getD_eq_getElem?_getD]
    · rw [decide_eq_false (fun z => he (by
        rw [drop_gt (by omega), drop_gt (l := flt D) (by omega), List.cons.injEq] at z
        exact z.1))]
      obtain ⟨u, hu⟩ : ∃ u : Int, u = vc ((flt C).getD k 0) := ⟨_, rfl⟩
      obtain ⟨v, hv⟩ : ∃ v : Int, v = vc ((flt D).getD k 0) := ⟨_, rfl⟩
      have huv : ¬ u = v := fun z => he (vc_inj g1 g2 (by rw [← hu, ← hv]; exact z))
      rw [← hu] at e1 r1
      rw [← hv] at e2 r2
      refine Gx.fin 60 Cs.tt (fun K _ => ?_)
      simp (disch := first | (refine c1_id ?_; assumption) | (refine c1_st rfl ?_; repeat (first | assumption | refine c1_st rfl ?_)) | omega) [nx_l, nx_r, nx_n, x_st, x_push, x_bin, x_div, x_un, x_dup, x_pop, x_dup2, x_goto, x_ifeq, x_ifne, x_iflt, x_ifge, x_ifgt, x_ifle, x_iceq, x_icne, x_iclt, x_icge, x_icgt, x_icle, x_ifnull, x_ifnonnull, x_ldi, x_lda, x_sti, x_sta, x_iinc, x_gf, x_pf, x_ald, x_ast, x_aln, x_len, x_cl_, x_cv, x_cs, x_rc, x_r0, x_isT, x_oi, x_rv, x_ri, x_ra, Value.category, t23_0, t23_1, t23_4, t23_5, t23_8, t23_11, t23_12, t23_15, t23_16, t23_19, t23_22, t23_23, t23_24, t23_25, t23_26, t23_27, t23_28, t23_31, t23_34, t23_35, t23_38, t23_39, t23_40, t23_41, t23_44, t23_45, t23_46, t23_49, t23_50, t23_53, t23_54, t23_55, t23_56, t23_59, t23_60, t23_61, t23_64, t23_65, t23_66, t23_69, t23_72, t23_73, t23_74, t23_75, t23_76, t23_79, t23_82, t23_83, t23_86, t23_87, t23_88, t23_89, t23_92, t23_93, t23_94, t23_97, t23_98, t23_99, t23_102, t23_105, t23_106, lk_s, hp_get, hp_set, uH_at, uH_ne, uH_upd, uH_swap, iZ_add, iZ_sub, iZ_mul, iZ_neg, iZ_lt, iZ_le, iZ_eq, iZ_div, iZ_of, ix_Z, gZ_map, gZ_mapI, gZ_map', le_0, le_s, sZ_map, sZ_len, bZ_0, bZ_inj, bZ_t, bZ_f, nr_i, nr_0, nr_1, nr_b, ft_i, ft_b, ft_0, ft_1, zl_0, zl_1, l0, l1, l2, fa, fs, fa2, fs2, e1, e2, b1, huv, -List.filter_filter, -List.getElem?_map, -List.getD_eq_getElem?_getD]
theorem m23 (d : Nat) (hf : fo w a S E B C.length (flt C).length o) (hN : fN N a S E B) (hW : FW C S E B) (hg : gV C) (hf2 : fo w b S2 E2 B2 D.length (flt D).length o2) (hN2 : fN N b S2 E2 B2) (hW2 : FW D S2 E2 B2) (hg2 : gV D) (lS : (flt C).length ≤ S.length) (lS2 : (flt D).length ≤ S2.length) (lE : C.length ≤ E.length) (lB : C.length ≤ B.length) (lE2 : D.length ≤ E2.length) (lB2 : D.length ≤ B2.length) : Xc (d + 1) 23 [.ref (a + 3), .ref (b + 3)] (hp w N) (some (.int (iZ (bZ (decide (C = D))))), hp w N) := by
  obtain ⟨fa, fs, fe, fg⟩ := id hf
  obtain ⟨na, ls, le, lg⟩ := id hN
  obtain ⟨fa2, fs2, fe2, fg2⟩ := id hf2
  obtain ⟨na2, ls2, le2, lg2⟩ := id hN2
  refine Xc.of rfl (by simp [lg_sl, Value.category]) ?_ (x_le.rf)
  have hc : c1 (lv_args 0 [.ref (a + 3), .ref (b + 3)]) := by simp [c1, lv_args, Value.category]
  have l0 : x_lk (lv_args 0 [.ref (a + 3), .ref (b + 3)]) 0 = some (.ref (a + 3)) := rfl
  have l1 : x_lk (lv_args 0 [.ref (a + 3), .ref (b + 3)]) 1 = some (.ref (b + 3)) := rfl
  generalize lv_args 0 [.ref (a + 3), .ref (b + 3)] = lv at hc l0 l1
  have f9 : (flt C).length < 10000 := by omega
  have g9 : (flt D).length < 10000 := by omega
  have c9 : (C.length : Int) < 10000 := by omega
  have d9 : (D.length : Int) < 10000 := by omega
  have f9' : ((flt C).length : Int) < 10000 := by omega
  have g9' : ((flt D).length : Int) < 10000 := by omega
  by_cases h1 : C.length = D.length
  · by_cases h2 : (flt C).length = (flt D).length
    · have C2 := c1_st (i := 2) (v := .int (iZ 0)) rfl hc
      have I := l23a d hf hN hW hg hf2 hN2 hW2 hg2 lE lB lE2 lB2 f9 g9 h1 C.length 0 _ (by omega) C2 (by rw [lk_s hc]; exact l0) (by rw [lk_s hc]; exact l1) (by rw [lk_s hc]; rfl)
      have g26 : ∀ res, Gx q_k23 d 26 ((2, .int (iZ 0)) :: lv.filter (x_keep 2), [], hp w N) res → Gx q_k23 d 0 (lv, [], hp w N) res := fun res hg => by
        rw [← h1, ← h2] at fa2
        refine Gx.run 40 Cs.tt (fun K _ => ?_) hg
        simp (disch := first | (refine c1_id ?_; assumption) | (refine c1_st rfl ?_; repeat (first | assumption | refine c1_st rfl ?_)) | omega) [nx_l, nx_r, nx_n, x_st, x_push, x_bin, x_div, x_un, x_dup, x_pop, x_dup2, x_goto, x_ifeq, x_ifne, x_iflt, x_ifge, x_ifgt, x_ifle, x_iceq, x_icne, x_iclt, x_icge, x_icgt, x_icle, x_ifnull, x_ifnonnull, x_ldi, x_lda, x_sti, x_sta, x_iinc, x_gf, x_pf, x_ald, x_ast, x_aln, x_len, x_cl_, x_cv, x_cs, x_rc, x_r0, x_isT, x_oi, x_rv, x_ri, x_ra, Value.category, t23_0, t23_1, t23_4, t23_5, t23_8, t23_11, t23_12, t23_15, t23_16, t23_19, t23_22, t23_23, t23_24, t23_25, t23_26, t23_27, t23_28, t23_31, t23_34, t23_35, t23_38, t23_39, t23_40, t23_41, t23_44, t23_45, t23_46, t23_49, t23_50, t23_53, t23_54, t23_55, t23_56, t23_59, t23_60, t23_61, t23_64, t23_65, t23_66, t23_69, t23_72, t23_73, t23_74, t23_75, t23_76, t23_79, t23_82, t23_83, t23_86, t23_87, t23_88, t23_89, t23_92, t23_93, t23_94, t23_97, t23_98, t23_99, t23_102, t23_105, t23_106, lk_s, hp_get, hp_set, uH_at, uH_ne, uH_upd, uH_swap, iZ_add, iZ_sub, iZ_mul, iZ_neg, iZ_lt, iZ_le, iZ_eq, iZ_div, iZ_of, ix_Z, gZ_map, gZ_mapI, gZ_map', le_0, le_s, sZ_map, sZ_len, bZ_0, bZ_inj, bZ_t, bZ_f, nr_i, nr_0, nr_1, nr_b, ft_i, ft_b, ft_0, ft_1, zl_0, zl_1, l0, l1, fa, fa2, -List.filter_filter, -List.getElem?_map, -List.getD_eq_getElem?_getD]
      by_cases h3 : ∀ q, 0 ≤ q → q < C.length → stC C (q + 1) = stC D (q + 1) ∧ (lC C q).1 = (lC D q).1
      · obtain ⟨lv', j1, j2, j3, j4⟩ := I.2 h3
        have D2 := c1_st (i := 2) (v := .int (iZ 0)) rfl j1
        have J := l23b d hf hN hW hg hf2 hN2 hW2 hg2 lS lS2 h2 (flt C).length 0 _ (by omega) D2 (by rw [lk_s j1]; exact j2) (by rw [lk_s j1]; exact j3) (by rw [lk_s j1]; rfl)
        have ev : decide (C = D) = decide ((flt C).drop 0 = (flt D).drop 0) := by
          rw [Bool.eq_iff_iff, decide_eq_true_iff, decide_eq_true_iff]
          constructor
          · intro z
            rw [z]
          · intro z
            have efl : flt C = flt D := z
            have est : ∀ q, q ≤ C.length → stC C q = stC D q := fun q hq => by
              cases q with
              | zero => rfl
              | succ q => exact (h3 q (Nat.zero_le _) (by omega)).1
            apply List.ext_getElem h1
            intro k hk1 hk2
            have e1 : C[k] = lC C k := by
              unfold lC
              rw [List.getD_eq_getElem?_getD, List.getElem?_eq_getElem hk1]
              rfl
            have e2 : D[k] = lC D k := by
              unfold lC
              rw [List.getD_eq_getElem?_getD, List.getElem?_eq_getElem hk2]
              rfl
            rw [e1, e2]
            have t1 := stC_succ hk1
            have t2 := stC_succ hk2
            have u1 := est k (by omega)
            have u2 := est (k + 1) (by omega)
            exact Prod.ext (h3 k (Nat.zero_le _) hk1).2 (getD_ext (by omega) (fun q hq => by
              rw [← flt_at hk1 hq, ← flt_at hk2 (by omega), efl, u1]))
        rw [ev]
        refine g26 _ (j4 _ (Gx.run 20 Cs.tt (fun K _ => ?_) J))
        simp (disch := first | (refine c1_id ?_; assumption) | (refine c1_st rfl ?_; repeat (first | assumption | refine c1_st rfl ?_)) | omega) [nx_l, nx_r, nx_n, x_st, x_push, x_bin, x_div, x_un, x_dup, x_pop, x_dup2, x_goto, x_ifeq, x_ifne, x_iflt, x_ifge, x_ifgt, x_ifle, x_iceq, x_icne, x_iclt, x_icge, x_icgt, x_icle, x_ifnull, x_ifnonnull, x_ldi, x_lda, x_sti, x_sta, x_iinc, x_gf, x_pf, x_ald, x_ast, x_aln, x_len, x_cl_, x_cv, x_cs, x_rc, x_r0, x_isT, x_oi, x_rv, x_ri, x_ra, Value.category, t23_0, t23_1, t23_4, t23_5, t23_8, t23_11, t23_12, t23_15, t23_16, t23_19, t23_22, t23_23, t23_24, t23_25, t23_26, t23_27, t23_28, t23_31, t23_34, t23_35, t23_38, t23_39, t23_40, t23_41, t23_44, t23_45, t23_46, t23_49, t23_50, t23_53, t23_54, t23_55, t23_56, t23_59, t23_60, t23_61, t23_64, t23_65, t23_66, t23_69, t23_72, t23_73, t23_74, t23_75, t23_76, t23_79, t23_82, t23_83, t23_86, t23_87, t23_88, t23_89, t23_92, t23_93, t23_94, t23_97, t23_98, t23_99, t23_102, t23_105, t23_106, lk_s, hp_get, hp_set, uH_at, uH_ne, uH_upd, uH_swap, iZ_add, iZ_sub, iZ_mul, iZ_neg, iZ_lt, iZ_le, iZ_eq, iZ_div, iZ_of, ix_Z, gZ_map, gZ_mapI, gZ_map', le_0, le_s, sZ_map, sZ_len, bZ_0, bZ_inj, bZ_t, bZ_f, nr_i, nr_0, nr_1, nr_b, ft_i, ft_b, ft_0, ft_1, zl_0, zl_1, j2, -List.filter_filter, -List.getElem?_map, -List.getD_eq_getElem?_getD]
      · rw [decide_eq_false (fun z => h3 (fun q _ _ => by rw [z]; exact ⟨rfl, rfl⟩))]
        refine g26 _ (I.1 ?_)
        by_cases h4 : ∃ q, 0 ≤ q ∧ q < C.length ∧ ¬ (stC C (q + 1) = stC D (q + 1) ∧ (lC C q).1 = (lC D q).1)
        · exact h4
        · exact absurd (fun q q0 q1 => by
            by_cases hz : stC C (q + 1) = stC D (q + 1) ∧ (lC C q).1 = (lC D q).1
            · exact hz
            · exact absurd ⟨q, q0, q1, hz⟩ h4) h3
    · rw [decide_eq_false (fun z => h2 (by rw [z]))]
      rw [← h1] at fa2
      obtain ⟨p, hpp⟩ : ∃ p : Int, p = ((flt C).length : Int) := ⟨_, rfl⟩
      obtain ⟨q, hqq⟩ : ∃ q : Int, q = ((flt D).length : Int) := ⟨_, rfl⟩
      rw [← hpp] at fa
      rw [← hqq] at fa2
      have hpq : ¬ p = q := by omega
      have p0 : 0 ≤ p := by omega
      have p9 : p < 10000 := by omega
      have q0 : 0 ≤ q := by omega
      have q9 : q < 10000 := by omega
      refine Gx.fin 40 Cs.tt (fun K _ => ?_)
      simp (disch := first | (refine c1_id ?_; assumption) | (refine c1_st rfl ?_; repeat (first | assumption | refine c1_st rfl ?_)) | omega) [nx_l, nx_r, nx_n, x_st, x_push, x_bin, x_div, x_un, x_dup, x_pop, x_dup2, x_goto, x_ifeq, x_ifne, x_iflt, x_ifge, x_ifgt, x_ifle, x_iceq, x_icne, x_iclt, x_icge, x_icgt, x_icle, x_ifnull, x_ifnonnull, x_ldi, x_lda, x_sti, x_sta, x_iinc, x_gf, x_pf, x_ald, x_ast, x_aln, x_len, x_cl_, x_cv, x_cs, x_rc, x_r0, x_isT, x_oi, x_rv, x_ri, x_ra, Value.category, t23_0, t23_1, t23_4, t23_5, t23_8, t23_11, t23_12, t23_15, t23_16, t23_19, t23_22, t23_23, t23_24, t23_25, t23_26, t23_27, t23_28, t23_31, t23_34, t23_35, t23_38, t23_39, t23_40, t23_41, t23_44, t23_45, t23_46, t23_49, t23_50, t23_53, t23_54, t23_55, t23_56, t23_59, t23_60, t23_61, t23_64, t23_65, t23_66, t23_69, t23_72, t23_73, t23_74, t23_75, t23_76, t23_79, t23_82, t23_83, t23_86, t23_87, t23_88, t23_89, t23_92, t23_93, t23_94, t23_97, t23_98, t23_99, t23_102, t23_105, t23_106, lk_s, hp_get, hp_set, uH_at, uH_ne, uH_upd, uH_swap, iZ_add, iZ_sub, iZ_mul, iZ_neg, iZ_lt, iZ_le, iZ_eq, iZ_div, iZ_of, ix_Z, gZ_map, gZ_mapI, gZ_map', le_0, le_s, sZ_map, sZ_len, bZ_0, bZ_inj, bZ_t, bZ_f, nr_i, nr_0, nr_1, nr_b, ft_i, ft_b, ft_0, ft_1, zl_0, zl_1, l0, l1, fa, fa2, hpq, -List.filter_filter, -List.getElem?_map, -List.getD_eq_getElem?_getD]
  · rw [decide_eq_false (fun z => h1 (by rw [z]))]
    obtain ⟨p, hpp⟩ : ∃ p : Int, p = (C.length : Int) := ⟨_, rfl⟩
    obtain ⟨q, hqq⟩ : ∃ q : Int, q = (D.length : Int) := ⟨_, rfl⟩
    rw [← hpp] at fa
    rw [← hqq] at fa2
    have hpq : ¬ p = q := by omega
    have p0 : 0 ≤ p := by omega
    have p9 : p < 10000 := by omega
    have q0 : 0 ≤ q := by omega
    have q9 : q < 10000 := by omega
    refine Gx.fin 40 Cs.tt (fun K _ => ?_)
    simp (disch := first | (refine c1_id ?_; assumption) | (refine c1_st rfl ?_; repeat (first | assumption | refine c1_st rfl ?_)) | omega) [nx_l, nx_r, nx_n, x_st, x_push, x_bin, x_div, x_un, x_dup, x_pop, x_dup2, x_goto, x_ifeq, x_ifne, x_iflt, x_ifge, x_ifgt, x_ifle, x_iceq, x_icne, x_iclt, x_icge, x_icgt, x_icle, x_ifnull, x_ifnonnull, x_ldi, x_lda, x_sti, x_sta, x_iinc, x_gf, x_pf, x_ald, x_ast, x_aln, x_len, x_cl_, x_cv, x_cs, x_rc, x_r0, x_isT, x_oi, x_rv, x_ri, x_ra, Value.category, t23_0, t23_1, t23_4, t23_5, t23_8, t23_11, t23_12, t23_15, t23_16, t23_19, t23_22, t23_23, t23_24, t23_25, t23_26, t23_27, t23_28, t23_31, t23_34, t23_35, t23_38, t23_39, t23_40, t23_41, t23_44, t23_45, t23_46, t23_49, t23_50, t23_53, t23_54, t23_55, t23_56, t23_59, t23_60, t23_61, t23_64, t23_65, t23_66, t23_69, t23_72, t23_73, t23_74, t23_75, t23_76, t23_79, t23_82, t23_83, t23_86, t23_87, t23_88, t23_89, t23_92, t23_93, t23_94, t23_97, t23_98, t23_99, t23_102, t23_105, t23_106, lk_s, hp_get, hp_set, uH_at, uH_ne, uH_upd, uH_swap, iZ_add, iZ_sub, iZ_mul, iZ_neg, iZ_lt, iZ_le, iZ_eq, iZ_div, iZ_of, ix_Z, gZ_map, gZ_mapI, gZ_map', le_0, le_s, sZ_map, sZ_len, bZ_0, bZ_inj, bZ_t, bZ_f, nr_i, nr_0, nr_1, nr_b, ft_i, ft_b, ft_0, ft_1, zl_0, zl_1, l0, l1, fa, fa2, hpq, -List.filter_filter, -List.getElem?_map, -List.getD_eq_getElem?_getD]
end FT
