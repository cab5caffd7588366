/-! the reference: loops that copy rows -/
theorem f122_0 : x_fetch q_k122 0 = x_lda 1 0 := rfl
theorem f122_1 : x_fetch q_k122 1 = x_cv 4 106 1 8 := rfl
theorem f122_4 : x_fetch q_k122 4 = x_lda 5 0 := rfl
theorem f122_5 : x_fetch q_k122 5 = x_lda 6 0 := rfl
theorem f122_6 : x_fetch q_k122 6 = x_gf 9 8 22 := rfl
theorem f122_9 : x_fetch q_k122 9 = x_pf 12 8 28 (.int) := rfl
theorem f122_12 : x_fetch q_k122 12 = x_st (x_push 13 (.int (0))) := rfl
theorem f122_13 : x_fetch q_k122 13 = x_sti 14 1 := rfl
theorem f122_14 : x_fetch q_k122 14 = x_ldi 15 1 := rfl
theorem f122_15 : x_fetch q_k122 15 = x_lda 16 0 := rfl
theorem f122_16 : x_fetch q_k122 16 = x_gf 19 8 21 := rfl
theorem f122_19 : x_fetch q_k122 19 = x_st (x_icge 40 22) := rfl
theorem f122_22 : x_fetch q_k122 22 = x_lda 23 0 := rfl
theorem f122_23 : x_fetch q_k122 23 = x_gf 26 8 25 := rfl
theorem f122_26 : x_fetch q_k122 26 = x_ldi 27 1 := rfl
theorem f122_27 : x_fetch q_k122 27 = x_lda 28 0 := rfl
theorem f122_28 : x_fetch q_k122 28 = x_gf 31 8 17 := rfl
theorem f122_31 : x_fetch q_k122 31 = x_ldi 32 1 := rfl
theorem f122_32 : x_fetch q_k122 32 = x_ald 33 0 := rfl
theorem f122_33 : x_fetch q_k122 33 = x_ast 34 0 (fun x => x) := rfl
theorem f122_34 : x_fetch q_k122 34 = x_iinc 37 1 (1) := rfl
theorem f122_37 : x_fetch q_k122 37 = x_st (x_goto 14) := rfl
theorem f122_40 : x_fetch q_k122 40 = x_st (x_push 41 (.int (0))) := rfl
theorem f122_41 : x_fetch q_k122 41 = x_sti 42 1 := rfl
theorem f122_42 : x_fetch q_k122 42 = x_ldi 43 1 := rfl
theorem f122_43 : x_fetch q_k122 43 = x_lda 44 0 := rfl
theorem f122_44 : x_fetch q_k122 44 = x_gf 47 8 22 := rfl
theorem f122_47 : x_fetch q_k122 47 = x_st (x_icgt 68 50) := rfl
theorem f122_50 : x_fetch q_k122 50 = x_lda 51 0 := rfl
theorem f122_51 : x_fetch q_k122 51 = x_gf 54 8 26 := rfl
theorem f122_54 : x_fetch q_k122 54 = x_ldi 55 1 := rfl
theorem f122_55 : x_fetch q_k122 55 = x_lda 56 0 := rfl
theorem f122_56 : x_fetch q_k122 56 = x_gf 59 8 18 := rfl
theorem f122_59 : x_fetch q_k122 59 = x_ldi 60 1 := rfl
theorem f122_60 : x_fetch q_k122 60 = x_ald 61 0 := rfl
theorem f122_61 : x_fetch q_k122 61 = x_ast 62 0 (fun x => x) := rfl
theorem f122_62 : x_fetch q_k122 62 = x_iinc 65 1 (1) := rfl
theorem f122_65 : x_fetch q_k122 65 = x_st (x_goto 42) := rfl
theorem f122_68 : x_fetch q_k122 68 = x_st (x_push 69 (.int (0))) := rfl
theorem f122_69 : x_fetch q_k122 69 = x_sti 70 1 := rfl
theorem f122_70 : x_fetch q_k122 70 = x_ldi 71 1 := rfl
theorem f122_71 : x_fetch q_k122 71 = x_lda 72 0 := rfl
theorem f122_72 : x_fetch q_k122 72 = x_gf 75 8 22 := rfl
theorem f122_75 : x_fetch q_k122 75 = x_st (x_icge 96 78) := rfl
theorem f122_78 : x_fetch q_k122 78 = x_lda 79 0 := rfl
theorem f122_79 : x_fetch q_k122 79 = x_gf 82 8 27 := rfl
theorem f122_82 : x_fetch q_k122 82 = x_ldi 83 1 := rfl
theorem f122_83 : x_fetch q_k122 83 = x_lda 84 0 := rfl
theorem f122_84 : x_fetch q_k122 84 = x_gf 87 8 20 := rfl
theorem f122_87 : x_fetch q_k122 87 = x_ldi 88 1 := rfl
theorem f122_88 : x_fetch q_k122 88 = x_ald 89 1 := rfl
theorem f122_89 : x_fetch q_k122 89 = x_ast 90 1 (fun x => vp_nar .boolean x) := rfl
theorem f122_90 : x_fetch q_k122 90 = x_iinc 93 1 (1) := rfl
theorem f122_93 : x_fetch q_k122 93 = x_st (x_goto 70) := rfl
theorem f122_96 : x_fetch q_k122 96 = x_rv := rfl
section CP
variable {w : Nat → xC} {N : Nat} {m : Nat → Int} {S T U : List Int}

theorem l122_14 (d : Nat) (hN : 60 ≤ N) (hm : w 27 = .inr (8, mF m)) (hs : w 38 = cI 0 S) (hS : S.length = 600) (hb : m 7 ≤ 60) (hb0 : 0 ≤ m 7) : ∀ (r : Nat) (k : Int) (Q : List Int) (lv : xL), Q.length = 60 → k + r = m 7 → 0 ≤ k → c1 lv → x_lk lv 0 = some (.ref 30) → x_lk lv 1 = some (.int (iZ k)) → ∀ res, (∀ lv', c1 lv' → (∀ j, j ≠ 1 → x_lk lv' j = x_lk lv j) → Gx q_k122 d 40 (lv', [], hp (uH w 42 (cI 0 (cpl (0) (fun k => gZ S k) r k Q))) N) res) →
    Gx q_k122 d 14 (lv, [], hp (uH w 42 (cI 0 Q)) N) res := by
  intro r
  induction r with
  | zero =>
    intro k Q lv hQ hk h0 hc l0 l1  res hcont
    refine Gx.run 60 Cs.tt (fun C _ => ?_) (hcont lv hc (fun _ _ => rfl))
    simp (disch := first | (refine c1_id ?_; assumption) | (refine c1_st rfl ?_; first | assumption | (refine c1_st rfl ?_; first | assumption | (refine c1_st rfl ?_; first | assumption | (refine c1_st rfl ?_; assumption)))) | omega) [x_to, x_st, x_push, x_bin, x_div, x_un, x_dup, x_pop, x_dup2, x_goto, x_ifeq, x_ifne, x_iflt, x_ifge, x_ifgt, x_ifle, x_iceq, x_icne, x_iclt, x_icge, x_icgt, x_icle, x_ifnull, x_ifnonnull, x_ldi, x_lda, x_sti, x_sta, x_iinc, x_gf, x_pf, x_ald, x_ast, x_aln, x_len, x_cl_, x_cv, x_cs, x_rc, x_r0, x_isT, x_oi, x_rv, x_ri, x_ra, Value.category, f122_0, f122_1, f122_4, f122_5, f122_6, f122_9, f122_12, f122_13, f122_14, f122_15, f122_16, f122_19, f122_22, f122_23, f122_26, f122_27, f122_28, f122_31, f122_32, f122_33, f122_34, f122_37, f122_40, f122_41, f122_42, f122_43, f122_44, f122_47, f122_50, f122_51, f122_54, f122_55, f122_56, f122_59, f122_60, f122_61, f122_62, f122_65, f122_68, f122_69, f122_70, f122_71, f122_72, f122_75, f122_78, f122_79, f122_82, f122_83, f122_84, f122_87, f122_88, f122_89, f122_90, f122_93, f122_96, lk_s, hp_get, hp_set, uH_at, uH_ne, uH_upd, uH_swap, iZ_add, iZ_sub, iZ_mul, iZ_neg, iZ_lt, iZ_le, iZ_eq, iZ_div, iZ_of, ix_Z, gZ_map, gZ_mapI, gZ_map', le_0, le_s, sZ_map, sZ_len, bZ_0, bZ_inj, bZ_t, bZ_f, nr_i, nr_0, nr_1, nr_b, ft_i, ft_b, ft_0, ft_1, zl_0, zl_1, mF_len, mg_0, mg_1, mg_2, mg_3, mg_4, mg_5, mg_6, mg_7, mg_8, mg_9, mg_10, mg_11, mg_12, mg_13, mg_14, mg_15, mg_16, mg_17, mg_18, mg_19, mg_20, mg_21, mg_22, mg_23, mg_24, mg_25, mg_26, mg_27, mg_28, mg_29, mg_30, mg_31, mg_32, mg_33, mg_34, mg_35, mg_36, mg_37, mg_38, ms_0, ms_1, ms_2, ms_13, ms_14, ms_15, ms_16, ms_21, ms_22, ms_23, ms_24, ms_28, ms_36, ms_37, ms_38, st_at, st_ne, st_st, st_swap, l0, l1, hm, hs, cpl, -List.filter_filter, -List.getElem?_map, -List.getD_eq_getElem?_getD]
  | succ r ih =>
    intro k Q lv hQ hk h0 hc l0 l1  res hcont
    refine Gx.run 60 Cs.tt (fun C _ => ?_) (ih (k + 1) (sZ Q (0 + k) ((fun k => gZ S k) k)) (((1 : Nat), .int (iZ (k + 1))) :: List.filter (x_keep 1) lv) (by rw [sZ_len]; exact hQ) (by omega) (by omega) (c1_st rfl hc) (by rw [lk_s hc]; exact l0) (by rw [lk_s hc]; rfl) res (fun lv' h1 h2 => hcont lv' h1 (fun j hj => by rw [h2 j hj, lk_s hc, if_neg (Ne.symm hj)])))
    simp (disch := first | (refine c1_id ?_; assumption) | (refine c1_st rfl ?_; first | assumption | (refine c1_st rfl ?_; first | assumption | (refine c1_st rfl ?_; first | assumption | (refine c1_st rfl ?_; assumption)))) | omega) [x_to, x_st, x_push, x_bin, x_div, x_un, x_dup, x_pop, x_dup2, x_goto, x_ifeq, x_ifne, x_iflt, x_ifge, x_ifgt, x_ifle, x_iceq, x_icne, x_iclt, x_icge, x_icgt, x_icle, x_ifnull, x_ifnonnull, x_ldi, x_lda, x_sti, x_sta, x_iinc, x_gf, x_pf, x_ald, x_ast, x_aln, x_len, x_cl_, x_cv, x_cs, x_rc, x_r0, x_isT, x_oi, x_rv, x_ri, x_ra, Value.category, f122_0, f122_1, f122_4, f122_5, f122_6, f122_9, f122_12, f122_13, f122_14, f122_15, f122_16, f122_19, f122_22, f122_23, f122_26, f122_27, f122_28, f122_31, f122_32, f122_33, f122_34, f122_37, f122_40, f122_41, f122_42, f122_43, f122_44, f122_47, f122_50, f122_51, f122_54, f122_55, f122_56, f122_59, f122_60, f122_61, f122_62, f122_65, f122_68, f122_69, f122_70, f122_71, f122_72, f122_75, f122_78, f122_79, f122_82, f122_83, f122_84, f122_87, f122_88, f122_89, f122_90, f122_93, f122_96, lk_s, hp_get, hp_set, uH_at, uH_ne, uH_upd, uH_swap, iZ_add, iZ_sub, iZ_mul, iZ_neg, iZ_lt, iZ_le, iZ_eq, iZ_div, iZ_of, ix_Z, gZ_map, gZ_mapI, gZ_map', le_0, le_s, sZ_map, sZ_len, bZ_0, bZ_inj, bZ_t, bZ_f, nr_i, nr_0, nr_1, nr_b, ft_i, ft_b, ft_0, ft_1, zl_0, zl_1, mF_len, mg_0, mg_1, mg_2, mg_3, mg_4, mg_5, mg_6, mg_7, mg_8, mg_9, mg_10, mg_11, mg_12, mg_13, mg_14, mg_15, mg_16, mg_17, mg_18, mg_19, mg_20, mg_21, mg_22, mg_23, mg_24, mg_25, mg_26, mg_27, mg_28, mg_29, mg_30, mg_31, mg_32, mg_33, mg_34, mg_35, mg_36, mg_37, mg_38, ms_0, ms_1, ms_2, ms_13, ms_14, ms_15, ms_16, ms_21, ms_22, ms_23, ms_24, ms_28, ms_36, ms_37, ms_38, st_at, st_ne, st_st, st_swap, l0, l1, hm, hs, -List.filter_filter, -List.getElem?_map, -List.getD_eq_getElem?_getD]

theorem l122_42 (d : Nat) (hN : 60 ≤ N) (hm : w 27 = .inr (8, mF m)) (hs : w 39 = cI 0 S) (hS : S.length = 14) (hb : m 8 ≤ 7) (hb0 : 0 ≤ m 8) : ∀ (r : Nat) (k : Int) (Q : List Int) (lv : xL), Q.length = 8 → k + r = m 8 + 1 → 0 ≤ k → c1 lv → x_lk lv 0 = some (.ref 30) → x_lk lv 1 = some (.int (iZ k)) → ∀ res, (∀ lv', c1 lv' → (∀ j, j ≠ 1 → x_lk lv' j = x_lk lv j) → Gx q_k122 d 68 (lv', [], hp (uH w 43 (cI 0 (cpl (0) (fun k => gZ S k) r k Q))) N) res) →
    Gx q_k122 d 42 (lv, [], hp (uH w 43 (cI 0 Q)) N) res := by
  intro r
  induction r with
  | zero =>
    intro k Q lv hQ hk h0 hc l0 l1  res hcont
    refine Gx.run 60 Cs.tt (fun C _ => ?_) (hcont lv hc (fun _ _ => rfl))
    simp (disch := first | (refine c1_id ?_; assumption) | (refine c1_st rfl ?_; first | assumption | (refine c1_st rfl ?_; first | assumption | (refine c1_st rfl ?_; first | assumption | (refine c1_st rfl ?_; assumption)))) | omega) [x_to, x_st, x_push, x_bin, x_div, x_un, x_dup, x_pop, x_dup2, x_goto, x_ifeq, x_ifne, x_iflt, x_ifge, x_ifgt, x_ifle, x_iceq, x_icne, x_iclt, x_icge, x_icgt, x_icle, x_ifnull, x_ifnonnull, x_ldi, x_lda, x_sti, x_sta, x_iinc, x_gf, x_pf, x_ald, x_ast, x_aln, x_len, x_cl_, x_cv, x_cs, x_rc, x_r0, x_isT, x_oi, x_rv, x_ri, x_ra, Value.category, f122_0, f122_1, f122_4, f122_5, f122_6, f122_9, f122_12, f122_13, f122_14, f122_15, f122_16, f122_19, f122_22, f122_23, f122_26, f122_27, f122_28, f122_31, f122_32, f122_33, f122_34, f122_37, f122_40, f122_41, f122_42, f122_43, f122_44, f122_47, f122_50, f122_51, f122_54, f122_55, f122_56, f122_59, f122_60, f122_61, f122_62, f122_65, f122_68, f122_69, f122_70, f122_71, f122_72, f122_75, f122_78, f122_79, f122_82, f122_83, f122_84, f122_87, f122_88, f122_89, f122_90, f122_93, f122_96, lk_s, hp_get, hp_set, uH_at, uH_ne, uH_upd, uH_swap, iZ_add, iZ_sub, iZ_mul, iZ_neg, iZ_lt, iZ_le, iZ_eq, iZ_div, iZ_of, ix_Z, gZ_map, gZ_mapI, gZ_map', le_0, le_s, sZ_map, sZ_len, bZ_0, bZ_inj, bZ_t, bZ_f, nr_i, nr_0, nr_1, nr_b, ft_i, ft_b, ft_0, ft_1, zl_0, zl_1, mF_len, mg_0, mg_1, mg_2, mg_3, mg_4, mg_5, mg_6, mg_7, mg_8, mg_9, mg_10, mg_11, mg_12, mg_13, mg_14, mg_15, mg_16, mg_17, mg_18, mg_19, mg_20, mg_21, mg_22, mg_23, mg_24, mg_25, mg_26, mg_27, mg_28, mg_29, mg_30, mg_31, mg_32, mg_33, mg_34, mg_35, mg_36, mg_37, mg_38, ms_0, ms_1, ms_2, ms_13, ms_14, ms_15, ms_16, ms_21, ms_22, ms_23, ms_24, ms_28, ms_36, ms_37, ms_38, st_at, st_ne, st_st, st_swap, l0, l1, hm, hs, cpl, -List.filter_filter, -List.getElem?_map, -List.getD_eq_getElem?_getD]
  | succ r ih =>
    intro k Q lv hQ hk h0 hc l0 l1  res hcont
    refine Gx.run 60 Cs.tt (fun C _ => ?_) (ih (k + 1) (sZ Q (0 + k) ((fun k => gZ S k) k)) (((1 : Nat), .int (iZ (k + 1))) :: List.filter (x_keep 1) lv) (by rw [sZ_len]; exact hQ) (by omega) (by omega) (c1_st rfl hc) (by rw [lk_s hc]; exact l0) (by rw [lk_s hc]; rfl) res (fun lv' h1 h2 => hcont lv' h1 (fun j hj => by rw [h2 j hj, lk_s hc, if_neg (Ne.symm hj)])))
    simp (disch := first | (refine c1_id ?_; assumption) | (refine c1_st rfl ?_; first | assumption | (refine c1_st rfl ?_; first | assumption | (refine c1_st rfl ?_; first | assumption | (refine c1_st rfl ?_; assumption)))) | omega) [x_to, x_st, x_push, x_bin, x_div, x_un, x_dup, x_pop, x_dup2, x_goto, x_ifeq, x_ifne, x_iflt, x_ifge, x_ifgt, x_ifle, x_iceq, x_icne, x_iclt, x_icge, x_icgt, x_icle, x_ifnull, x_ifnonnull, x_ldi, x_lda, x_sti, x_sta, x_iinc, x_gf, x_pf, x_ald, x_ast, x_aln, x_len, x_cl_, x_cv, x_cs, x_rc, x_r0, x_isT, x_oi, x_rv, x_ri, x_ra, Value.category, f122_0, f122_1, f122_4, f122_5, f122_6, f122_9, f122_12, f122_13, f122_14, f122_15, f122_16, f122_19, f122_22, f122_23, f122_26, f122_27, f122_28, f122_31, f122_32, f122_33, f122_34, f122_37, f122_40, f122_41, f122_42, f122_43, f122_44, f122_47, f122_50, f122_51, f122_54, f122_55, f122_56, f122_59, f122_60, f122_61, f122_62, f122_65, f122_68, f122_69, f122_70, f122_71, f122_72, f122_75, f122_78, f122_79, f122_82, f122_83, f122_84, f122_87, f122_88, f122_89, f122_90, f122_93, f122_96, lk_s, hp_get, hp_set, uH_at, uH_ne, uH_upd, uH_swap, iZ_add, iZ_sub, iZ_mul, iZ_neg, iZ_lt, iZ_le, iZ_eq, iZ_div, iZ_of, ix_Z, gZ_map, gZ_mapI, gZ_map', le_0, le_s, sZ_map, sZ_len, bZ_0, bZ_inj, bZ_t, bZ_f, nr_i, nr_0, nr_1, nr_b, ft_i, ft_b, ft_0, ft_1, zl_0, zl_1, mF_len, mg_0, mg_1, mg_2, mg_3, mg_4, mg_5, mg_6, mg_7, mg_8, mg_9, mg_10, mg_11, mg_12, mg_13, mg_14, mg_15, mg_16, mg_17, mg_18, mg_19, mg_20, mg_21, mg_22, mg_23, mg_24, mg_25, mg_26, mg_27, mg_28, mg_29, mg_30, mg_31, mg_32, mg_33, mg_34, mg_35, mg_36, mg_37, mg_38, ms_0, ms_1, ms_2, ms_13, ms_14, ms_15, ms_16, ms_21, ms_22, ms_23, ms_24, ms_28, ms_36, ms_37, ms_38, st_at, st_ne, st_st, st_swap, l0, l1, hm, hs, -List.filter_filter, -List.getElem?_map, -List.getD_eq_getElem?_getD]

end CP
