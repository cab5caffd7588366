/-! symbols and forms -/
theorem m0 (d : Nat) (w : Nat → xC) (N : Nat) (c t : Int) : Xc (d + 1) 0 [.int (iZ c), .int (iZ t)] (hp w N) (some (.int (iZ (4 * (c - 97) + t))), hp w N) := by
  refine Xc.of rfl (by simp [lg_sl, Value.category]) ?_ x_le.rf
  refine Gx.fin 20 Cs.tt (fun C _ => ?_)
  simp (disch := first | (refine c1_id ?_; assumption) | (refine c1_st rfl ?_; first | assumption | (refine c1_st rfl ?_; first | assumption | (refine c1_st rfl ?_; first | assumption | (refine c1_st rfl ?_; assumption)))) | omega) [nx_l, nx_r, nx_n, x_st, x_push, x_bin, x_div, x_un, x_dup, x_pop, x_dup2, x_goto, x_ifeq, x_ifne, x_iflt, x_ifge, x_ifgt, x_ifle, x_iceq, x_icne, x_iclt, x_icge, x_icgt, x_icle, x_ifnull, x_ifnonnull, x_ldi, x_lda, x_sti, x_sta, x_iinc, x_gf, x_pf, x_ald, x_ast, x_aln, x_len, x_cl_, x_cv, x_cs, x_rc, x_r0, x_isT, x_oi, x_rv, x_ri, x_ra, Value.category, t0_0, t0_1, t0_2, t0_4, t0_5, t0_6, t0_7, t0_8, lk_s, hp_get, hp_set, uH_at, uH_ne, uH_upd, uH_swap, iZ_add, iZ_sub, iZ_mul, iZ_neg, iZ_lt, iZ_le, iZ_eq, iZ_div, iZ_of, ix_Z, gZ_map, gZ_mapI, gZ_map', le_0, le_s, sZ_map, sZ_len, bZ_0, bZ_inj, bZ_t, bZ_f, nr_i, nr_0, nr_1, nr_b, ft_i, ft_b, ft_0, ft_1, zl_0, zl_1, zl_4, zl_97, lv_args, x_lk, -List.filter_filter, -List.getElem?_map, -List.getD_eq_getElem?_getD]
theorem m1 (d : Nat) (w : Nat → xC) (N : Nat) (v : Int) : Xc (d + 1) 1 [.int (iZ v)] (hp w N) (some (.int (iZ (128 + 4 * v))), hp w N) := by
  refine Xc.of rfl (by simp [lg_sl, Value.category]) ?_ x_le.rf
  refine Gx.fin 20 Cs.tt (fun C _ => ?_)
  simp (disch := first | (refine c1_id ?_; assumption) | (refine c1_st rfl ?_; first | assumption | (refine c1_st rfl ?_; first | assumption | (refine c1_st rfl ?_; first | assumption | (refine c1_st rfl ?_; assumption)))) | omega) [nx_l, nx_r, nx_n, x_st, x_push, x_bin, x_div, x_un, x_dup, x_pop, x_dup2, x_goto, x_ifeq, x_ifne, x_iflt, x_ifge, x_ifgt, x_ifle, x_iceq, x_icne, x_iclt, x_icge, x_icgt, x_icle, x_ifnull, x_ifnonnull, x_ldi, x_lda, x_sti, x_sta, x_iinc, x_gf, x_pf, x_ald, x_ast, x_aln, x_len, x_cl_, x_cv, x_cs, x_rc, x_r0, x_isT, x_oi, x_rv, x_ri, x_ra, Value.category, t1_0, t1_3, t1_4, t1_5, t1_6, t1_7, lk_s, hp_get, hp_set, uH_at, uH_ne, uH_upd, uH_swap, iZ_add, iZ_sub, iZ_mul, iZ_neg, iZ_lt, iZ_le, iZ_eq, iZ_div, iZ_of, ix_Z, gZ_map, gZ_mapI, gZ_map', le_0, le_s, sZ_map, sZ_len, bZ_0, bZ_inj, bZ_t, bZ_f, nr_i, nr_0, nr_1, nr_b, ft_i, ft_b, ft_0, ft_1, zl_0, zl_1, zl_4, zl_128, lv_args, x_lk, -List.filter_filter, -List.getElem?_map, -List.getD_eq_getElem?_getD]
theorem m2 (d : Nat) (w : Nat → xC) (N : Nat) (s : Int) (h1 : -2147483648 ≤ s) (h2 : s < 2147483648) : Xc (d + 1) 2 [.int (iZ s)] (hp w N) (some (.int (iZ (bZ (decide (128 ≤ s))))), hp w N) := by
  refine Xc.of rfl (by simp [lg_sl, Value.category]) ?_ x_le.rf
  refine Gx.fin 20 Cs.tt (fun C _ => ?_)
  by_cases h : s < 128
  · have e : decide (128 ≤ s) = false := decide_eq_false (by omega)
    simp (disch := first | (refine c1_id ?_; assumption) | (refine c1_st rfl ?_; first | assumption | (refine c1_st rfl ?_; first | assumption | (refine c1_st rfl ?_; first | assumption | (refine c1_st rfl ?_; assumption)))) | omega) [nx_l, nx_r, nx_n, x_st, x_push, x_bin, x_div, x_un, x_dup, x_pop, x_dup2, x_goto, x_ifeq, x_ifne, x_iflt, x_ifge, x_ifgt, x_ifle, x_iceq, x_icne, x_iclt, x_icge, x_icgt, x_icle, x_ifnull, x_ifnonnull, x_ldi, x_lda, x_sti, x_sta, x_iinc, x_gf, x_pf, x_ald, x_ast, x_aln, x_len, x_cl_, x_cv, x_cs, x_rc, x_r0, x_isT, x_oi, x_rv, x_ri, x_ra, Value.category, t2_0, t2_1, t2_4, t2_7, t2_8, t2_11, t2_12, lk_s, hp_get, hp_set, uH_at, uH_ne, uH_upd, uH_swap, iZ_add, iZ_sub, iZ_mul, iZ_neg, iZ_lt, iZ_le, iZ_eq, iZ_div, iZ_of, ix_Z, gZ_map, gZ_mapI, gZ_map', le_0, le_s, sZ_map, sZ_len, bZ_0, bZ_inj, bZ_t, bZ_f, nr_i, nr_0, nr_1, nr_b, ft_i, ft_b, ft_0, ft_1, zl_0, zl_1, zl_128, lv_args, x_lk, h, e, -List.filter_filter, -List.getElem?_map, -List.getD_eq_getElem?_getD]
  · have e : decide (128 ≤ s) = true := decide_eq_true (by omega)
    simp (disch := first | (refine c1_id ?_; assumption) | (refine c1_st rfl ?_; first | assumption | (refine c1_st rfl ?_; first | assumption | (refine c1_st rfl ?_; first | assumption | (refine c1_st rfl ?_; assumption)))) | omega) [nx_l, nx_r, nx_n, x_st, x_push, x_bin, x_div, x_un, x_dup, x_pop, x_dup2, x_goto, x_ifeq, x_ifne, x_iflt, x_ifge, x_ifgt, x_ifle, x_iceq, x_icne, x_iclt, x_icge, x_icgt, x_icle, x_ifnull, x_ifnonnull, x_ldi, x_lda, x_sti, x_sta, x_iinc, x_gf, x_pf, x_ald, x_ast, x_aln, x_len, x_cl_, x_cv, x_cs, x_rc, x_r0, x_isT, x_oi, x_rv, x_ri, x_ra, Value.category, t2_0, t2_1, t2_4, t2_7, t2_8, t2_11, t2_12, lk_s, hp_get, hp_set, uH_at, uH_ne, uH_upd, uH_swap, iZ_add, iZ_sub, iZ_mul, iZ_neg, iZ_lt, iZ_le, iZ_eq, iZ_div, iZ_of, ix_Z, gZ_map, gZ_mapI, gZ_map', le_0, le_s, sZ_map, sZ_len, bZ_0, bZ_inj, bZ_t, bZ_f, nr_i, nr_0, nr_1, nr_b, ft_i, ft_b, ft_0, ft_1, zl_0, zl_1, zl_128, lv_args, x_lk, h, e, -List.filter_filter, -List.getElem?_map, -List.getD_eq_getElem?_getD]
theorem m3 (d : Nat) (w : Nat → xC) (N : Nat) (s : Int) (h1 : 128 ≤ s) (h2 : s < 2147483648) : Xc (d + 1) 3 [.int (iZ s)] (hp w N) (some (.int (iZ ((s - 128) / 4))), hp w N) := by
  refine Xc.of rfl (by simp [lg_sl, Value.category]) ?_ x_le.rf
  refine Gx.fin 20 Cs.tt (fun C _ => ?_)
  simp (disch := first | (refine c1_id ?_; assumption) | (refine c1_st rfl ?_; first | assumption | (refine c1_st rfl ?_; first | assumption | (refine c1_st rfl ?_; first | assumption | (refine c1_st rfl ?_; assumption)))) | omega) [nx_l, nx_r, nx_n, x_st, x_push, x_bin, x_div, x_un, x_dup, x_pop, x_dup2, x_goto, x_ifeq, x_ifne, x_iflt, x_ifge, x_ifgt, x_ifle, x_iceq, x_icne, x_iclt, x_icge, x_icgt, x_icle, x_ifnull, x_ifnonnull, x_ldi, x_lda, x_sti, x_sta, x_iinc, x_gf, x_pf, x_ald, x_ast, x_aln, x_len, x_cl_, x_cv, x_cs, x_rc, x_r0, x_isT, x_oi, x_rv, x_ri, x_ra, Value.category, t3_0, t3_1, t3_4, t3_5, t3_6, t3_7, lk_s, hp_get, hp_set, uH_at, uH_ne, uH_upd, uH_swap, iZ_add, iZ_sub, iZ_mul, iZ_neg, iZ_lt, iZ_le, iZ_eq, iZ_div, iZ_of, ix_Z, gZ_map, gZ_mapI, gZ_map', le_0, le_s, sZ_map, sZ_len, bZ_0, bZ_inj, bZ_t, bZ_f, nr_i, nr_0, nr_1, nr_b, ft_i, ft_b, ft_0, ft_1, zl_0, zl_1, zl_4, zl_128, lv_args, x_lk, -List.filter_filter, -List.getElem?_map, -List.getD_eq_getElem?_getD]
theorem m4 (d : Nat) (w : Nat → xC) (N : Nat) (s : Int) (h1 : 0 ≤ s) (h2 : s < 2147483648) : Xc (d + 1) 4 [.int (iZ s)] (hp w N) (some (.int (iZ (s / 4))), hp w N) := by
  refine Xc.of rfl (by simp [lg_sl, Value.category]) ?_ x_le.rf
  refine Gx.fin 20 Cs.tt (fun C _ => ?_)
  simp (disch := first | (refine c1_id ?_; assumption) | (refine c1_st rfl ?_; first | assumption | (refine c1_st rfl ?_; first | assumption | (refine c1_st rfl ?_; first | assumption | (refine c1_st rfl ?_; assumption)))) | omega) [nx_l, nx_r, nx_n, x_st, x_push, x_bin, x_div, x_un, x_dup, x_pop, x_dup2, x_goto, x_ifeq, x_ifne, x_iflt, x_ifge, x_ifgt, x_ifle, x_iceq, x_icne, x_iclt, x_icge, x_icgt, x_icle, x_ifnull, x_ifnonnull, x_ldi, x_lda, x_sti, x_sta, x_iinc, x_gf, x_pf, x_ald, x_ast, x_aln, x_len, x_cl_, x_cv, x_cs, x_rc, x_r0, x_isT, x_oi, x_rv, x_ri, x_ra, Value.category, t4_0, t4_1, t4_2, t4_3, lk_s, hp_get, hp_set, uH_at, uH_ne, uH_upd, uH_swap, iZ_add, iZ_sub, iZ_mul, iZ_neg, iZ_lt, iZ_le, iZ_eq, iZ_div, iZ_of, ix_Z, gZ_map, gZ_mapI, gZ_map', le_0, le_s, sZ_map, sZ_len, bZ_0, bZ_inj, bZ_t, bZ_f, nr_i, nr_0, nr_1, nr_b, ft_i, ft_b, ft_0, ft_1, zl_0, zl_1, zl_4, lv_args, x_lk, -List.filter_filter, -List.getElem?_map, -List.getD_eq_getElem?_getD]
theorem m5 (d : Nat) (w : Nat → xC) (N : Nat) (s : Int) (h1 : 0 ≤ s) (h2 : s < 2147483648) : Xc (d + 1) 5 [.int (iZ s)] (hp w N) (some (.int (iZ (s % 4))), hp w N) := by
  refine Xc.of rfl (by simp [lg_sl, Value.category]) ?_ x_le.rf
  refine Gx.fin 20 Cs.tt (fun C _ => ?_)
  have e : s - s / 4 * 4 = s % 4 := by omega
  simp (disch := first | (refine c1_id ?_; assumption) | (refine c1_st rfl ?_; first | assumption | (refine c1_st rfl ?_; first | assumption | (refine c1_st rfl ?_; first | assumption | (refine c1_st rfl ?_; assumption)))) | omega) [nx_l, nx_r, nx_n, x_st, x_push, x_bin, x_div, x_un, x_dup, x_pop, x_dup2, x_goto, x_ifeq, x_ifne, x_iflt, x_ifge, x_ifgt, x_ifle, x_iceq, x_icne, x_iclt, x_icge, x_icgt, x_icle, x_ifnull, x_ifnonnull, x_ldi, x_lda, x_sti, x_sta, x_iinc, x_gf, x_pf, x_ald, x_ast, x_aln, x_len, x_cl_, x_cv, x_cs, x_rc, x_r0, x_isT, x_oi, x_rv, x_ri, x_ra, Value.category, t5_0, t5_1, t5_2, t5_3, lk_s, hp_get, hp_set, uH_at, uH_ne, uH_upd, uH_swap, iZ_add, iZ_sub, iZ_mul, iZ_neg, iZ_lt, iZ_le, iZ_eq, iZ_div, iZ_of, ix_Z, gZ_map, gZ_mapI, gZ_map', le_0, le_s, sZ_map, sZ_len, bZ_0, bZ_inj, bZ_t, bZ_f, nr_i, nr_0, nr_1, nr_b, ft_i, ft_b, ft_0, ft_1, zl_0, zl_1, zl_4, lv_args, x_lk, e, -List.filter_filter, -List.getElem?_map, -List.getD_eq_getElem?_getD]
/-- a form at a, with its rows behind it -/
def fo (w : Nat → xC) (a : Nat) (S E B : List Int) (c l o : Int) : Prop :=
  w a = .inr (4, [.ref (a + 4), .ref (a + 5), .ref (a + 6), .int (iZ c), .int (iZ l), .int (iZ o)]) ∧ w (a + 1) = cI 0 S ∧ w (a + 2) = cI 0 E ∧ w (a + 3) = cI 1 B
/-- its places lie in the heap, its rows are short -/
def fN (N a : Nat) (S E B : List Int) : Prop := a + 3 < N ∧ S.length < 10000 ∧ E.length < 10000 ∧ B.length < 10000
def stZ (E : List Int) (k : Int) : Int := if k = 0 then 0 else gZ E (k - 1)
section FO
variable {w : Nat → xC} {N a : Nat} {S E B : List Int} {c l o : Int}
theorem m11 (d : Nat) (k : Int) (hf : fo w a S E B c l o) (hN : fN N a S E B) (h0 : 0 ≤ k) (h1 : k ≤ E.length) : Xc (d + 1) 11 [.ref (a + 3), .int (iZ k)] (hp w N) (some (.int (iZ (stZ E k))), hp w N) := by
  obtain ⟨fa, fs, fe, fg⟩ := hf
  obtain ⟨na, ls, le, lg⟩ := hN
  refine Xc.of rfl (by simp [lg_sl, Value.category]) ?_ x_le.rf
  refine Gx.fin 20 Cs.tt (fun C _ => ?_)
  by_cases h : k = 0
  · subst h
    have q : stZ E 0 = 0 := rfl
    simp (disch := first | (refine c1_id ?_; assumption) | (refine c1_st rfl ?_; first | assumption | (refine c1_st rfl ?_; first | assumption | (refine c1_st rfl ?_; first | assumption | (refine c1_st rfl ?_; assumption)))) | omega) [nx_l, nx_r, nx_n, x_st, x_push, x_bin, x_div, x_un, x_dup, x_pop, x_dup2, x_goto, x_ifeq, x_ifne, x_iflt, x_ifge, x_ifgt, x_ifle, x_iceq, x_icne, x_iclt, x_icge, x_icgt, x_icle, x_ifnull, x_ifnonnull, x_ldi, x_lda, x_sti, x_sta, x_iinc, x_gf, x_pf, x_ald, x_ast, x_aln, x_len, x_cl_, x_cv, x_cs, x_rc, x_r0, x_isT, x_oi, x_rv, x_ri, x_ra, Value.category, t11_0, t11_1, t11_4, t11_5, t11_8, t11_9, t11_12, t11_13, t11_14, t11_15, t11_16, lk_s, hp_get, hp_set, uH_at, uH_ne, uH_upd, uH_swap, iZ_add, iZ_sub, iZ_mul, iZ_neg, iZ_lt, iZ_le, iZ_eq, iZ_div, iZ_of, ix_Z, gZ_map, gZ_mapI, gZ_map', le_0, le_s, sZ_map, sZ_len, bZ_0, bZ_inj, bZ_t, bZ_f, nr_i, nr_0, nr_1, nr_b, ft_i, ft_b, ft_0, ft_1, zl_0, zl_1, lv_args, x_lk, q, -List.filter_filter, -List.getElem?_map, -List.getD_eq_getElem?_getD]
  · have q : stZ E k = gZ E (k - 1) := if_neg h
    simp (disch := first | (refine c1_id ?_; assumption) | (refine c1_st rfl ?_; first | assumption | (refine c1_st rfl ?_; first | assumption | (refine c1_st rfl ?_; first | assumption | (refine c1_st rfl ?_; assumption)))) | omega) [nx_l, nx_r, nx_n, x_st, x_push, x_bin, x_div, x_un, x_dup, x_pop, x_dup2, x_goto, x_ifeq, x_ifne, x_iflt, x_ifge, x_ifgt, x_ifle, x_iceq, x_icne, x_iclt, x_icge, x_icgt, x_icle, x_ifnull, x_ifnonnull, x_ldi, x_lda, x_sti, x_sta, x_iinc, x_gf, x_pf, x_ald, x_ast, x_aln, x_len, x_cl_, x_cv, x_cs, x_rc, x_r0, x_isT, x_oi, x_rv, x_ri, x_ra, Value.category, t11_0, t11_1, t11_4, t11_5, t11_8, t11_9, t11_12, t11_13, t11_14, t11_15, t11_16, lk_s, hp_get, hp_set, uH_at, uH_ne, uH_upd, uH_swap, iZ_add, iZ_sub, iZ_mul, iZ_neg, iZ_lt, iZ_le, iZ_eq, iZ_div, iZ_of, ix_Z, gZ_map, gZ_mapI, gZ_map', le_0, le_s, sZ_map, sZ_len, bZ_0, bZ_inj, bZ_t, bZ_f, nr_i, nr_0, nr_1, nr_b, ft_i, ft_b, ft_0, ft_1, zl_0, zl_1, lv_args, x_lk, q, fa, fe, h, -List.filter_filter, -List.getElem?_map, -List.getD_eq_getElem?_getD]
theorem m12 (d : Nat) (k : Int) (hf : fo w a S E B c l o) (hN : fN N a S E B) (h1 : -2147483648 ≤ k) (h2 : k < 2147483648) (h3 : 0 ≤ c) (h4 : c < 100) : Xc (d + 1) 12 [.ref (a + 3), .int (iZ k)] (hp w N) (some (.int (iZ (bZ (decide (0 ≤ k ∧ k < c))))), hp w N) := by
  obtain ⟨fa, fs, fe, fg⟩ := hf
  obtain ⟨na, ls, le, lg⟩ := hN
  refine Xc.of rfl (by simp [lg_sl, Value.category]) ?_ x_le.rf
  refine Gx.fin 20 Cs.tt (fun C _ => ?_)
  by_cases hk : k < 0
  · have q : decide (0 ≤ k ∧ k < c) = false := decide_eq_false (by omega)
    simp (disch := first | (refine c1_id ?_; assumption) | (refine c1_st rfl ?_; first | assumption | (refine c1_st rfl ?_; first | assumption | (refine c1_st rfl ?_; first | assumption | (refine c1_st rfl ?_; assumption)))) | omega) [nx_l, nx_r, nx_n, x_st, x_push, x_bin, x_div, x_un, x_dup, x_pop, x_dup2, x_goto, x_ifeq, x_ifne, x_iflt, x_ifge, x_ifgt, x_ifle, x_iceq, x_icne, x_iclt, x_icge, x_icgt, x_icle, x_ifnull, x_ifnonnull, x_ldi, x_lda, x_sti, x_sta, x_iinc, x_gf, x_pf, x_ald, x_ast, x_aln, x_len, x_cl_, x_cv, x_cs, x_rc, x_r0, x_isT, x_oi, x_rv, x_ri, x_ra, Value.category, t12_0, t12_1, t12_4, t12_5, t12_6, t12_9, t12_12, t12_13, t12_16, t12_17, lk_s, hp_get, hp_set, uH_at, uH_ne, uH_upd, uH_swap, iZ_add, iZ_sub, iZ_mul, iZ_neg, iZ_lt, iZ_le, iZ_eq, iZ_div, iZ_of, ix_Z, gZ_map, gZ_mapI, gZ_map', le_0, le_s, sZ_map, sZ_len, bZ_0, bZ_inj, bZ_t, bZ_f, nr_i, nr_0, nr_1, nr_b, ft_i, ft_b, ft_0, ft_1, zl_0, zl_1, lv_args, x_lk, q, fa, hk, -List.filter_filter, -List.getElem?_map, -List.getD_eq_getElem?_getD]
  · by_cases hk2 : c ≤ k
    · have q : decide (0 ≤ k ∧ k < c) = false := decide_eq_false (by omega)
      simp (disch := first | (refine c1_id ?_; assumption) | (refine c1_st rfl ?_; first | assumption | (refine c1_st rfl ?_; first | assumption | (refine c1_st rfl ?_; first | assumption | (refine c1_st rfl ?_; assumption)))) | omega) [nx_l, nx_r, nx_n, x_st, x_push, x_bin, x_div, x_un, x_dup, x_pop, x_dup2, x_goto, x_ifeq, x_ifne, x_iflt, x_ifge, x_ifgt, x_ifle, x_iceq, x_icne, x_iclt, x_icge, x_icgt, x_icle, x_ifnull, x_ifnonnull, x_ldi, x_lda, x_sti, x_sta, x_iinc, x_gf, x_pf, x_ald, x_ast, x_aln, x_len, x_cl_, x_cv, x_cs, x_rc, x_r0, x_isT, x_oi, x_rv, x_ri, x_ra, Value.category, t12_0, t12_1, t12_4, t12_5, t12_6, t12_9, t12_12, t12_13, t12_16, t12_17, lk_s, hp_get, hp_set, uH_at, uH_ne, uH_upd, uH_swap, iZ_add, iZ_sub, iZ_mul, iZ_neg, iZ_lt, iZ_le, iZ_eq, iZ_div, iZ_of, ix_Z, gZ_map, gZ_mapI, gZ_map', le_0, le_s, sZ_map, sZ_len, bZ_0, bZ_inj, bZ_t, bZ_f, nr_i, nr_0, nr_1, nr_b, ft_i, ft_b, ft_0, ft_1, zl_0, zl_1, lv_args, x_lk, q, fa, hk, hk2, -List.filter_filter, -List.getElem?_map, -List.getD_eq_getElem?_getD]
    · have q : decide (0 ≤ k ∧ k < c) = true := decide_eq_true (by omega)
      simp (disch := first | (refine c1_id ?_; assumption) | (refine c1_st rfl ?_; first | assumption | (refine c1_st rfl ?_; first | assumption | (refine c1_st rfl ?_; first | assumption | (refine c1_st rfl ?_; assumption)))) | omega) [nx_l, nx_r, nx_n, x_st, x_push, x_bin, x_div, x_un, x_dup, x_pop, x_dup2, x_goto, x_ifeq, x_ifne, x_iflt, x_ifge, x_ifgt, x_ifle, x_iceq, x_icne, x_iclt, x_icge, x_icgt, x_icle, x_ifnull, x_ifnonnull, x_ldi, x_lda, x_sti, x_sta, x_iinc, x_gf, x_pf, x_ald, x_ast, x_aln, x_len, x_cl_, x_cv, x_cs, x_rc, x_r0, x_isT, x_oi, x_rv, x_ri, x_ra, Value.category, t12_0, t12_1, t12_4, t12_5, t12_6, t12_9, t12_12, t12_13, t12_16, t12_17, lk_s, hp_get, hp_set, uH_at, uH_ne, uH_upd, uH_swap, iZ_add, iZ_sub, iZ_mul, iZ_neg, iZ_lt, iZ_le, iZ_eq, iZ_div, iZ_of, ix_Z, gZ_map, gZ_mapI, gZ_map', le_0, le_s, sZ_map, sZ_len, bZ_0, bZ_inj, bZ_t, bZ_f, nr_i, nr_0, nr_1, nr_b, ft_i, ft_b, ft_0, ft_1, zl_0, zl_1, lv_args, x_lk, q, fa, hk, hk2, -List.filter_filter, -List.getElem?_map, -List.getD_eq_getElem?_getD]
theorem m13 (d : Nat) (k : Int) (hf : fo w a S E B c l o) (hN : fN N a S E B) (h0 : 0 ≤ k) (h1 : k ≤ E.length) (h2 : 0 ≤ stZ E k) (h3 : stZ E k < S.length) (h4 : 0 ≤ gZ S (stZ E k)) (h5 : gZ S (stZ E k) < 100000) :
    Xc (d + 2) 13 [.ref (a + 3), .int (iZ k)] (hp w N) (some (.int (iZ (bZ (decide (gZ S (stZ E k) = 106))))), hp w N) := by
  have m := m11 d k hf hN h0 h1
  obtain ⟨fa, fs, fe, fg⟩ := hf
  obtain ⟨na, ls, le, lg⟩ := hN
  refine Xc.of rfl (by simp [lg_sl, Value.category]) ?_ x_le.rf
  refine Gx.fin 20 m (fun C m => ?_)
  by_cases h : gZ S (stZ E k) = 106
  · have q : decide (gZ S (stZ E k) = 106) = true := decide_eq_true h
    simp (disch := first | (refine c1_id ?_; assumption) | (refine c1_st rfl ?_; first | assumption | (refine c1_st rfl ?_; first | assumption | (refine c1_st rfl ?_; first | assumption | (refine c1_st rfl ?_; assumption)))) | omega) [nx_l, nx_r, nx_n, x_st, x_push, x_bin, x_div, x_un, x_dup, x_pop, x_dup2, x_goto, x_ifeq, x_ifne, x_iflt, x_ifge, x_ifgt, x_ifle, x_iceq, x_icne, x_iclt, x_icge, x_icgt, x_icle, x_ifnull, x_ifnonnull, x_ldi, x_lda, x_sti, x_sta, x_iinc, x_gf, x_pf, x_ald, x_ast, x_aln, x_len, x_cl_, x_cv, x_cs, x_rc, x_r0, x_isT, x_oi, x_rv, x_ri, x_ra, Value.category, t13_0, t13_1, t13_4, t13_5, t13_6, t13_9, t13_10, t13_12, t13_15, t13_16, t13_19, t13_20, lk_s, hp_get, hp_set, uH_at, uH_ne, uH_upd, uH_swap, iZ_add, iZ_sub, iZ_mul, iZ_neg, iZ_lt, iZ_le, iZ_eq, iZ_div, iZ_of, ix_Z, gZ_map, gZ_mapI, gZ_map', le_0, le_s, sZ_map, sZ_len, bZ_0, bZ_inj, bZ_t, bZ_f, nr_i, nr_0, nr_1, nr_b, ft_i, ft_b, ft_0, ft_1, zl_0, zl_1, zl_106, lv_args, x_lk, q, fa, fs, m, h, -List.filter_filter, -List.getElem?_map, -List.getD_eq_getElem?_getD]
  · have q : decide (gZ S (stZ E k) = 106) = false := decide_eq_false h
    simp (disch := first | (refine c1_id ?_; assumption) | (refine c1_st rfl ?_; first | assumption | (refine c1_st rfl ?_; first | assumption | (refine c1_st rfl ?_; first | assumption | (refine c1_st rfl ?_; assumption)))) | omega) [nx_l, nx_r, nx_n, x_st, x_push, x_bin, x_div, x_un, x_dup, x_pop, x_dup2, x_goto, x_ifeq, x_ifne, x_iflt, x_ifge, x_ifgt, x_ifle, x_iceq, x_icne, x_iclt, x_icge, x_icgt, x_icle, x_ifnull, x_ifnonnull, x_ldi, x_lda, x_sti, x_sta, x_iinc, x_gf, x_pf, x_ald, x_ast, x_aln, x_len, x_cl_, x_cv, x_cs, x_rc, x_r0, x_isT, x_oi, x_rv, x_ri, x_ra, Value.category, t13_0, t13_1, t13_4, t13_5, t13_6, t13_9, t13_10, t13_12, t13_15, t13_16, t13_19, t13_20, lk_s, hp_get, hp_set, uH_at, uH_ne, uH_upd, uH_swap, iZ_add, iZ_sub, iZ_mul, iZ_neg, iZ_lt, iZ_le, iZ_eq, iZ_div, iZ_of, ix_Z, gZ_map, gZ_mapI, gZ_map', le_0, le_s, sZ_map, sZ_len, bZ_0, bZ_inj, bZ_t, bZ_f, nr_i, nr_0, nr_1, nr_b, ft_i, ft_b, ft_0, ft_1, zl_0, zl_1, zl_106, lv_args, x_lk, q, fa, fs, m, h, -List.filter_filter, -List.getElem?_map, -List.getD_eq_getElem?_getD]
theorem l20 (d : Nat) (hf : fo w a S E B c l o) (hN : fN N a S E B) (hl0 : 0 ≤ l) (hl : l ≤ S.length) (hv : ∀ i, 0 ≤ i → i < l → vs (gZ S i)) : ∀ (k : Nat) (t q : Int) (lv : xL), 0 ≤ t → 0 ≤ q → (tk t.toNat ((fP S l).drop q.toNat)).length = k → Ts t.toNat (tk t.toNat ((fP S l).drop q.toNat)) → q ≤ 10000 → c1 lv → x_lk lv 0 = some (.ref (a + 3)) → x_lk lv 2 = some (.int (iZ t)) → x_lk lv 3 = some (.int (iZ q)) →
    Gx q_k20 (d + 1) 4 (lv, [], hp w N) (some (.int (iZ (q + k))), hp w N) := by
  obtain ⟨fa, fs, fe, fg⟩ := hf
  obtain ⟨na, ls, le, lg⟩ := hN
  intro k
  induction k with
  | zero =>
    intro t q lv h0 h1 hk hT h2 hc l0 l2 l3
    rw [List.eq_nil_of_length_eq_zero hk, Ts_nil] at hT
    obtain rfl : t = 0 := by omega
    refine Gx.fin 20 Cs.tt (fun C _ => ?_)
    by_cases h5 : l ≤ q
    · simp (disch := first | (refine c1_id ?_; assumption) | (refine c1_st rfl ?_; first | assumption | (refine c1_st rfl ?_; first | assumption | (refine c1_st rfl ?_; first | assumption | (refine c1_st rfl ?_; assumption)))) | omega) [nx_l, nx_r, nx_n, x_st, x_push, x_bin, x_div, x_un, x_dup, x_pop, x_dup2, x_goto, x_ifeq, x_ifne, x_iflt, x_ifge, x_ifgt, x_ifle, x_iceq, x_icne, x_iclt, x_icge, x_icgt, x_icle, x_ifnull, x_ifnonnull, x_ldi, x_lda, x_sti, x_sta, x_iinc, x_gf, x_pf, x_ald, x_ast, x_aln, x_len, x_cl_, x_cv, x_cs, x_rc, x_r0, x_isT, x_oi, x_rv, x_ri, x_ra, Value.category, t20_0, t20_1, t20_2, t20_3, t20_4, t20_5, t20_6, t20_9, t20_12, t20_13, t20_16, t20_17, t20_18, t20_21, t20_22, t20_23, t20_26, t20_27, t20_28, t20_29, t20_30, t20_33, t20_36, t20_37, lk_s, hp_get, hp_set, uH_at, uH_ne, uH_upd, uH_swap, iZ_add, iZ_sub, iZ_mul, iZ_neg, iZ_lt, iZ_le, iZ_eq, iZ_div, iZ_of, ix_Z, gZ_map, gZ_mapI, gZ_map', le_0, le_s, sZ_map, sZ_len, bZ_0, bZ_inj, bZ_t, bZ_f, nr_i, nr_0, nr_1, nr_b, ft_i, ft_b, ft_0, ft_1, zl_0, zl_1, l0, l2, l3, fa, h5, -List.filter_filter, -List.getElem?_map, -List.getD_eq_getElem?_getD]
    · simp (disch := first | (refine c1_id ?_; assumption) | (refine c1_st rfl ?_; first | assumption | (refine c1_st rfl ?_; first | assumption | (refine c1_st rfl ?_; first | assumption | (refine c1_st rfl ?_; assumption)))) | omega) [nx_l, nx_r, nx_n, x_st, x_push, x_bin, x_div, x_un, x_dup, x_pop, x_dup2, x_goto, x_ifeq, x_ifne, x_iflt, x_ifge, x_ifgt, x_ifle, x_iceq, x_icne, x_iclt, x_icge, x_icgt, x_icle, x_ifnull, x_ifnonnull, x_ldi, x_lda, x_sti, x_sta, x_iinc, x_gf, x_pf, x_ald, x_ast, x_aln, x_len, x_cl_, x_cv, x_cs, x_rc, x_r0, x_isT, x_oi, x_rv, x_ri, x_ra, Value.category, t20_0, t20_1, t20_2, t20_3, t20_4, t20_5, t20_6, t20_9, t20_12, t20_13, t20_16, t20_17, t20_18, t20_21, t20_22, t20_23, t20_26, t20_27, t20_28, t20_29, t20_30, t20_33, t20_36, t20_37, lk_s, hp_get, hp_set, uH_at, uH_ne, uH_upd, uH_swap, iZ_add, iZ_sub, iZ_mul, iZ_neg, iZ_lt, iZ_le, iZ_eq, iZ_div, iZ_of, ix_Z, gZ_map, gZ_mapI, gZ_map', le_0, le_s, sZ_map, sZ_len, bZ_0, bZ_inj, bZ_t, bZ_f, nr_i, nr_0, nr_1, nr_b, ft_i, ft_b, ft_0, ft_1, zl_0, zl_1, l0, l2, l3, fa, h5, -List.filter_filter, -List.getElem?_map, -List.getD_eq_getElem?_getD]
  | succ k ih =>
    intro t q lv h0 h1 hk hT h2 hc l0 l2 l3
    obtain ⟨s1, s2, s3, s4, s5, s6⟩ := tk_step h0 h1 hk hT
    rw [fP_len hl] at s1 s3
    have hql : q < l := by omega
    have hs := hv q h1 hql
    have hs1 := vs_lo hs
    have hs2 := vs_hi hs
    rw [fP_pz h1 hql hl, cv_ar hs] at s4 s5 s6
    have mm := m5 d w N (gZ S q) hs1 (by omega)
    have q2 : t + (gZ S q % 4 - 1) = t + gZ S q % 4 - 1 := by omega
    have e9 : q + ((k + 1 : Nat) : Int) = q + 1 + (k : Int) := by omega
    rw [e9]
    refine Gx.run 40 mm (fun C mm => ?_) (ih (t + gZ S q % 4 - 1) (q + 1) ((3, .int (iZ (q + 1))) :: List.filter (x_keep 3) ((2, .int (iZ (t + gZ S q % 4 - 1))) :: List.filter (x_keep 2) lv)) s6 (by omega) s4 s5 (by omega) (c1_st rfl (c1_st rfl hc)) ?_ ?_ ?_)
    · have b1 : ¬ l ≤ q := by omega
      have b2 : ¬ t ≤ 0 := by omega
      simp (disch := first | (refine c1_id ?_; assumption) | (refine c1_st rfl ?_; first | assumption | (refine c1_st rfl ?_; first | assumption | (refine c1_st rfl ?_; first | assumption | (refine c1_st rfl ?_; assumption)))) | omega) [nx_l, nx_r, nx_n, x_st, x_push, x_bin, x_div, x_un, x_dup, x_pop, x_dup2, x_goto, x_ifeq, x_ifne, x_iflt, x_ifge, x_ifgt, x_ifle, x_iceq, x_icne, x_iclt, x_icge, x_icgt, x_icle, x_ifnull, x_ifnonnull, x_ldi, x_lda, x_sti, x_sta, x_iinc, x_gf, x_pf, x_ald, x_ast, x_aln, x_len, x_cl_, x_cv, x_cs, x_rc, x_r0, x_isT, x_oi, x_rv, x_ri, x_ra, Value.category, t20_0, t20_1, t20_2, t20_3, t20_4, t20_5, t20_6, t20_9, t20_12, t20_13, t20_16, t20_17, t20_18, t20_21, t20_22, t20_23, t20_26, t20_27, t20_28, t20_29, t20_30, t20_33, t20_36, t20_37, lk_s, hp_get, hp_set, uH_at, uH_ne, uH_upd, uH_swap, iZ_add, iZ_sub, iZ_mul, iZ_neg, iZ_lt, iZ_le, iZ_eq, iZ_div, iZ_of, ix_Z, gZ_map, gZ_mapI, gZ_map', le_0, le_s, sZ_map, sZ_len, bZ_0, bZ_inj, bZ_t, bZ_f, nr_i, nr_0, nr_1, nr_b, ft_i, ft_b, ft_0, ft_1, zl_0, zl_1, l0, l2, l3, fa, fs, mm, q2, b1, b2, -List.filter_filter, -List.getElem?_map, -List.getD_eq_getElem?_getD]
    · rw [lk_s (c1_st rfl hc), lk_s hc]; exact l0
    · rw [lk_s (c1_st rfl hc), lk_s hc]; rfl
    · rw [lk_s (c1_st rfl hc)]; rfl
theorem m20 (d : Nat) (p : Int) (hf : fo w a S E B c l o) (hN : fN N a S E B) (hl0 : 0 ≤ l) (hl : l ≤ S.length) (hv : ∀ i, 0 ≤ i → i < l → vs (gZ S i)) (h0 : 0 ≤ p) (h1 : p ≤ 10000) (hT : Ts 1 (tm (fP S l) p.toNat)) :
    Xc (d + 2) 20 [.ref (a + 3), .int (iZ p)] (hp w N) (some (.int (iZ (p + (tm (fP S l) p.toNat).length))), hp w N) := by
  refine Xc.of rfl (by simp [lg_sl, Value.category]) ?_ x_le.rf
  have hc : c1 (lv_args 0 [.ref (a + 3), .int (iZ p)]) := by simp [c1, lv_args, Value.category]
  have l0 : x_lk (lv_args 0 [.ref (a + 3), .int (iZ p)]) 0 = some (.ref (a + 3)) := rfl
  have l1 : x_lk (lv_args 0 [.ref (a + 3), .int (iZ p)]) 1 = some (.int (iZ p)) := rfl
  generalize lv_args 0 [.ref (a + 3), .int (iZ p)] = lv at hc l0 l1
  refine Gx.run 20 Cs.tt (fun C _ => ?_) (l20 d hf hN hl0 hl hv (tm (fP S l) p.toNat).length 1 p ((3, .int (iZ p)) :: List.filter (x_keep 3) ((2, .int (iZ 1)) :: List.filter (x_keep 2) lv)) (by omega) h0 rfl hT h1 (c1_st rfl (c1_st rfl hc)) ?_ ?_ ?_)
  · simp (disch := first | (refine c1_id ?_; assumption) | (refine c1_st rfl ?_; first | assumption | (refine c1_st rfl ?_; first | assumption | (refine c1_st rfl ?_; first | assumption | (refine c1_st rfl ?_; assumption)))) | omega) [nx_l, nx_r, nx_n, x_st, x_push, x_bin, x_div, x_un, x_dup, x_pop, x_dup2, x_goto, x_ifeq, x_ifne, x_iflt, x_ifge, x_ifgt, x_ifle, x_iceq, x_icne, x_iclt, x_icge, x_icgt, x_icle, x_ifnull, x_ifnonnull, x_ldi, x_lda, x_sti, x_sta, x_iinc, x_gf, x_pf, x_ald, x_ast, x_aln, x_len, x_cl_, x_cv, x_cs, x_rc, x_r0, x_isT, x_oi, x_rv, x_ri, x_ra, Value.category, t20_0, t20_1, t20_2, t20_3, t20_4, t20_5, t20_6, t20_9, t20_12, t20_13, t20_16, t20_17, t20_18, t20_21, t20_22, t20_23, t20_26, t20_27, t20_28, t20_29, t20_30, t20_33, t20_36, t20_37, lk_s, hp_get, hp_set, uH_at, uH_ne, uH_upd, uH_swap, iZ_add, iZ_sub, iZ_mul, iZ_neg, iZ_lt, iZ_le, iZ_eq, iZ_div, iZ_of, ix_Z, gZ_map, gZ_mapI, gZ_map', le_0, le_s, sZ_map, sZ_len, bZ_0, bZ_inj, bZ_t, bZ_f, nr_i, nr_0, nr_1, nr_b, ft_i, ft_b, ft_0, ft_1, zl_0, zl_1, l0, l1, -List.filter_filter, -List.getElem?_map, -List.getD_eq_getElem?_getD]
  · rw [lk_s (c1_st rfl hc), lk_s hc]; exact l0
  · rw [lk_s (c1_st rfl hc), lk_s hc]; rfl
  · rw [lk_s (c1_st rfl hc)]; rfl
/-- the same symbols, n many -/
def ssZ (S : List Int) (x y : Int) : Nat → Bool
  | 0 => true
  | n + 1 => decide (gZ S x = gZ S y) && ssZ S (x + 1) (y + 1) n
theorem l19 (d : Nat) (x y m : Int) (hf : fo w a S E B c l o) (hN : fN N a S E B) (hS : ∀ i, 0 ≤ i → i < l → 0 ≤ gZ S i ∧ gZ S i < 100000) (hl : l ≤ S.length) (hx : 0 ≤ x) (hy : 0 ≤ y) (hm : 0 ≤ m) (hxl : x + m ≤ l) (hyl : y + m ≤ l) : ∀ (n : Nat) (lv : xL) (p : Int), c1 lv → x_lk lv 0 = some (.ref (a + 3)) → x_lk lv 1 = some (.int (iZ x)) → x_lk lv 2 = some (.int (iZ y)) → x_lk lv 3 = some (.int (iZ m)) → x_lk lv 4 = some (.int (iZ p)) → 0 ≤ p → p + n = m →
    Gx q_k19 d 25 (lv, [], hp w N) (some (.int (iZ (bZ (ssZ S (x + p) (y + p) n)))), hp w N) := by
  obtain ⟨fa, fs, fe, fg⟩ := hf
  obtain ⟨na, ls, le, lg⟩ := hN
  intro n
  induction n with
  | zero =>
    intro lv p hc l0 l1 l2 l3 l4 h0 h1
    refine Gx.fin 20 Cs.tt (fun C _ => ?_)
    have q : ssZ S (x + p) (y + p) 0 = true := rfl
    have b1 : m ≤ p := by omega
    simp (disch := first | (refine c1_id ?_; assumption) | (refine c1_st rfl ?_; first | assumption | (refine c1_st rfl ?_; first | assumption | (refine c1_st rfl ?_; first | assumption | (refine c1_st rfl ?_; assumption)))) | omega) [nx_l, nx_r, nx_n, x_st, x_push, x_bin, x_div, x_un, x_dup, x_pop, x_dup2, x_goto, x_ifeq, x_ifne, x_iflt, x_ifge, x_ifgt, x_ifle, x_iceq, x_icne, x_iclt, x_icge, x_icgt, x_icle, x_ifnull, x_ifnonnull, x_ldi, x_lda, x_sti, x_sta, x_iinc, x_gf, x_pf, x_ald, x_ast, x_aln, x_len, x_cl_, x_cv, x_cs, x_rc, x_r0, x_isT, x_oi, x_rv, x_ri, x_ra, Value.category, t19_0, t19_1, t19_2, t19_3, t19_4, t19_7, t19_10, t19_11, t19_12, t19_13, t19_14, t19_17, t19_20, t19_21, t19_22, t19_23, t19_25, t19_27, t19_28, t19_31, t19_32, t19_35, t19_36, t19_38, t19_39, t19_40, t19_41, t19_44, t19_45, t19_47, t19_48, t19_49, t19_52, t19_53, t19_54, t19_57, t19_60, t19_61, lk_s, hp_get, hp_set, uH_at, uH_ne, uH_upd, uH_swap, iZ_add, iZ_sub, iZ_mul, iZ_neg, iZ_lt, iZ_le, iZ_eq, iZ_div, iZ_of, ix_Z, gZ_map, gZ_mapI, gZ_map', le_0, le_s, sZ_map, sZ_len, bZ_0, bZ_inj, bZ_t, bZ_f, nr_i, nr_0, nr_1, nr_b, ft_i, ft_b, ft_0, ft_1, zl_0, zl_1, l0, l1, l2, l3, l4, q, b1, -List.filter_filter, -List.getElem?_map, -List.getD_eq_getElem?_getD]
  | succ n ih =>
    intro lv p hc l0 l1 l2 l3 l4 h0 h1
    have s1 := hS (x + p) (by omega) (by omega)
    have s2 := hS (y + p) (by omega) (by omega)
    have b1 : ¬ m ≤ p := by omega
    by_cases h : gZ S (x + p) = gZ S (y + p)
    · have q : ssZ S (x + p) (y + p) (n + 1) = ssZ S (x + (p + 1)) (y + (p + 1)) n := by
        show (decide (gZ S (x + p) = gZ S (y + p)) && ssZ S (x + p + 1) (y + p + 1) n) = _
        rw [decide_eq_true h, Int.add_assoc, Int.add_assoc]
        rfl
      rw [q]
      refine Gx.run 40 Cs.tt (fun C _ => ?_) (ih ((4, .int (iZ (p + 1))) :: List.filter (x_keep 4) lv) (p + 1) (c1_st rfl hc) ?_ ?_ ?_ ?_ ?_ (by omega) (by omega))
      · simp (disch := first | (refine c1_id ?_; assumption) | (refine c1_st rfl ?_; first | assumption | (refine c1_st rfl ?_; first | assumption | (refine c1_st rfl ?_; first | assumption | (refine c1_st rfl ?_; assumption)))) | omega) [nx_l, nx_r, nx_n, x_st, x_push, x_bin, x_div, x_un, x_dup, x_pop, x_dup2, x_goto, x_ifeq, x_ifne, x_iflt, x_ifge, x_ifgt, x_ifle, x_iceq, x_icne, x_iclt, x_icge, x_icgt, x_icle, x_ifnull, x_ifnonnull, x_ldi, x_lda, x_sti, x_sta, x_iinc, x_gf, x_pf, x_ald, x_ast, x_aln, x_len, x_cl_, x_cv, x_cs, x_rc, x_r0, x_isT, x_oi, x_rv, x_ri, x_ra, Value.category, t19_0, t19_1, t19_2, t19_3, t19_4, t19_7, t19_10, t19_11, t19_12, t19_13, t19_14, t19_17, t19_20, t19_21, t19_22, t19_23, t19_25, t19_27, t19_28, t19_31, t19_32, t19_35, t19_36, t19_38, t19_39, t19_40, t19_41, t19_44, t19_45, t19_47, t19_48, t19_49, t19_52, t19_53, t19_54, t19_57, t19_60, t19_61, lk_s, hp_get, hp_set, uH_at, uH_ne, uH_upd, uH_swap, iZ_add, iZ_sub, iZ_mul, iZ_neg, iZ_lt, iZ_le, iZ_eq, iZ_div, iZ_of, ix_Z, gZ_map, gZ_mapI, gZ_map', le_0, le_s, sZ_map, sZ_len, bZ_0, bZ_inj, bZ_t, bZ_f, nr_i, nr_0, nr_1, nr_b, ft_i, ft_b, ft_0, ft_1, zl_0, zl_1, l0, l1, l2, l3, l4, fa, fs, h, b1, -List.filter_filter, -List.getElem?_map, -List.getD_eq_getElem?_getD]
      · rw [lk_s hc]; exact l0
      · rw [lk_s hc]; exact l1
      · rw [lk_s hc]; exact l2
      · rw [lk_s hc]; exact l3
      · rw [lk_s hc]; rfl
    · have q : ssZ S (x + p) (y + p) (n + 1) = false := by
        show (decide (gZ S (x + p) = gZ S (y + p)) && ssZ S (x + p + 1) (y + p + 1) n) = _
        rw [decide_eq_false h]
        rfl
      refine Gx.fin 40 Cs.tt (fun C _ => ?_)
      simp (disch := first | (refine c1_id ?_; assumption) | (refine c1_st rfl ?_; first | assumption | (refine c1_st rfl ?_; first | assumption | (refine c1_st rfl ?_; first | assumption | (refine c1_st rfl ?_; assumption)))) | omega) [nx_l, nx_r, nx_n, x_st, x_push, x_bin, x_div, x_un, x_dup, x_pop, x_dup2, x_goto, x_ifeq, x_ifne, x_iflt, x_ifge, x_ifgt, x_ifle, x_iceq, x_icne, x_iclt, x_icge, x_icgt, x_icle, x_ifnull, x_ifnonnull, x_ldi, x_lda, x_sti, x_sta, x_iinc, x_gf, x_pf, x_ald, x_ast, x_aln, x_len, x_cl_, x_cv, x_cs, x_rc, x_r0, x_isT, x_oi, x_rv, x_ri, x_ra, Value.category, t19_0, t19_1, t19_2, t19_3, t19_4, t19_7, t19_10, t19_11, t19_12, t19_13, t19_14, t19_17, t19_20, t19_21, t19_22, t19_23, t19_25, t19_27, t19_28, t19_31, t19_32, t19_35, t19_36, t19_38, t19_39, t19_40, t19_41, t19_44, t19_45, t19_47, t19_48, t19_49, t19_52, t19_53, t19_54, t19_57, t19_60, t19_61, lk_s, hp_get, hp_set, uH_at, uH_ne, uH_upd, uH_swap, iZ_add, iZ_sub, iZ_mul, iZ_neg, iZ_lt, iZ_le, iZ_eq, iZ_div, iZ_of, ix_Z, gZ_map, gZ_mapI, gZ_map', le_0, le_s, sZ_map, sZ_len, bZ_0, bZ_inj, bZ_t, bZ_f, nr_i, nr_0, nr_1, nr_b, ft_i, ft_b, ft_0, ft_1, zl_0, zl_1, l0, l1, l2, l3, l4, fa, fs, h, q, b1, -List.filter_filter, -List.getElem?_map, -List.getD_eq_getElem?_getD]
theorem m19 (d : Nat) (x y m : Int) (hf : fo w a S E B c l o) (hN : fN N a S E B) (hS : ∀ i, 0 ≤ i → i < l → 0 ≤ gZ S i ∧ gZ S i < 100000) (hl : l ≤ S.length) (hx : 0 ≤ x) (hy : 0 ≤ y) (hm : 0 ≤ m) (hxl : x < 10000) (hyl : y < 10000) (hml : m < 10000) (hl0 : 0 ≤ l) :
    Xc (d + 1) 19 [.ref (a + 3), .int (iZ x), .int (iZ y), .int (iZ m)] (hp w N) (some (.int (iZ (bZ (decide (x + m ≤ l ∧ y + m ≤ l) && ssZ S x y m.toNat)))), hp w N) := by
  refine Xc.of rfl (by simp [lg_sl, Value.category]) ?_ x_le.rf
  have hc : c1 (lv_args 0 [.ref (a + 3), .int (iZ x), .int (iZ y), .int (iZ m)]) := by simp [c1, lv_args, Value.category]
  have l0 : x_lk (lv_args 0 [.ref (a + 3), .int (iZ x), .int (iZ y), .int (iZ m)]) 0 = some (.ref (a + 3)) := rfl
  have l1 : x_lk (lv_args 0 [.ref (a + 3), .int (iZ x), .int (iZ y), .int (iZ m)]) 1 = some (.int (iZ x)) := rfl
  have l2 : x_lk (lv_args 0 [.ref (a + 3), .int (iZ x), .int (iZ y), .int (iZ m)]) 2 = some (.int (iZ y)) := rfl
  have l3 : x_lk (lv_args 0 [.ref (a + 3), .int (iZ x), .int (iZ y), .int (iZ m)]) 3 = some (.int (iZ m)) := rfl
  generalize lv_args 0 [.ref (a + 3), .int (iZ x), .int (iZ y), .int (iZ m)] = lv at hc l0 l1 l2 l3
  have hf' := hf
  have hN' := hN
  obtain ⟨fa, fs, fe, fg⟩ := hf'
  obtain ⟨na, ls, le, lg⟩ := hN'
  by_cases h : x + m ≤ l ∧ y + m ≤ l
  · rw [decide_eq_true h, Bool.true_and]
    have k := l19 d x y m hf hN hS hl hx hy hm h.1 h.2 m.toNat ((4, .int (iZ 0)) :: List.filter (x_keep 4) lv) 0 (c1_st rfl hc) (by rw [lk_s hc]; exact l0) (by rw [lk_s hc]; exact l1) (by rw [lk_s hc]; exact l2) (by rw [lk_s hc]; exact l3) (by rw [lk_s hc]; rfl) (by omega) (by omega)
    rw [Int.add_zero, Int.add_zero] at k
    refine Gx.run 40 Cs.tt (fun C _ => ?_) k
    have b1 : ¬ l < x + m := by omega
    have b2 : y + m ≤ l := h.2
    simp (disch := first | (refine c1_id ?_; assumption) | (refine c1_st rfl ?_; first | assumption | (refine c1_st rfl ?_; first | assumption | (refine c1_st rfl ?_; first | assumption | (refine c1_st rfl ?_; assumption)))) | omega) [nx_l, nx_r, nx_n, x_st, x_push, x_bin, x_div, x_un, x_dup, x_pop, x_dup2, x_goto, x_ifeq, x_ifne, x_iflt, x_ifge, x_ifgt, x_ifle, x_iceq, x_icne, x_iclt, x_icge, x_icgt, x_icle, x_ifnull, x_ifnonnull, x_ldi, x_lda, x_sti, x_sta, x_iinc, x_gf, x_pf, x_ald, x_ast, x_aln, x_len, x_cl_, x_cv, x_cs, x_rc, x_r0, x_isT, x_oi, x_rv, x_ri, x_ra, Value.category, t19_0, t19_1, t19_2, t19_3, t19_4, t19_7, t19_10, t19_11, t19_12, t19_13, t19_14, t19_17, t19_20, t19_21, t19_22, t19_23, t19_25, t19_27, t19_28, t19_31, t19_32, t19_35, t19_36, t19_38, t19_39, t19_40, t19_41, t19_44, t19_45, t19_47, t19_48, t19_49, t19_52, t19_53, t19_54, t19_57, t19_60, t19_61, lk_s, hp_get, hp_set, uH_at, uH_ne, uH_upd, uH_swap, iZ_add, iZ_sub, iZ_mul, iZ_neg, iZ_lt, iZ_le, iZ_eq, iZ_div, iZ_of, ix_Z, gZ_map, gZ_mapI, gZ_map', le_0, le_s, sZ_map, sZ_len, bZ_0, bZ_inj, bZ_t, bZ_f, nr_i, nr_0, nr_1, nr_b, ft_i, ft_b, ft_0, ft_1, zl_0, zl_1, l0, l1, l2, l3, fa, b1, b2, -List.filter_filter, -List.getElem?_map, -List.getD_eq_getElem?_getD]
  · rw [decide_eq_false h, Bool.false_and]
    refine Gx.fin 40 Cs.tt (fun C _ => ?_)
    by_cases h2 : l < x + m
    · simp (disch := first | (refine c1_id ?_; assumption) | (refine c1_st rfl ?_; first | assumption | (refine c1_st rfl ?_; first | assumption | (refine c1_st rfl ?_; first | assumption | (refine c1_st rfl ?_; assumption)))) | omega) [nx_l, nx_r, nx_n, x_st, x_push, x_bin, x_div, x_un, x_dup, x_pop, x_dup2, x_goto, x_ifeq, x_ifne, x_iflt, x_ifge, x_ifgt, x_ifle, x_iceq, x_icne, x_iclt, x_icge, x_icgt, x_icle, x_ifnull, x_ifnonnull, x_ldi, x_lda, x_sti, x_sta, x_iinc, x_gf, x_pf, x_ald, x_ast, x_aln, x_len, x_cl_, x_cv, x_cs, x_rc, x_r0, x_isT, x_oi, x_rv, x_ri, x_ra, Value.category, t19_0, t19_1, t19_2, t19_3, t19_4, t19_7, t19_10, t19_11, t19_12, t19_13, t19_14, t19_17, t19_20, t19_21, t19_22, t19_23, t19_25, t19_27, t19_28, t19_31, t19_32, t19_35, t19_36, t19_38, t19_39, t19_40, t19_41, t19_44, t19_45, t19_47, t19_48, t19_49, t19_52, t19_53, t19_54, t19_57, t19_60, t19_61, lk_s, hp_get, hp_set, uH_at, uH_ne, uH_upd, uH_swap, iZ_add, iZ_sub, iZ_mul, iZ_neg, iZ_lt, iZ_le, iZ_eq, iZ_div, iZ_of, ix_Z, gZ_map, gZ_mapI, gZ_map', le_0, le_s, sZ_map, sZ_len, bZ_0, bZ_inj, bZ_t, bZ_f, nr_i, nr_0, nr_1, nr_b, ft_i, ft_b, ft_0, ft_1, zl_0, zl_1, l0, l1, l2, l3, fa, h2, -List.filter_filter, -List.getElem?_map, -List.getD_eq_getElem?_getD]
    · have b2 : ¬ y + m ≤ l := by omega
      simp (disch := first | (refine c1_id ?_; assumption) | (refine c1_st rfl ?_; first | assumption | (refine c1_st rfl ?_; first | assumption | (refine c1_st rfl ?_; first | assumption | (refine c1_st rfl ?_; assumption)))) | omega) [nx_l, nx_r, nx_n, x_st, x_push, x_bin, x_div, x_un, x_dup, x_pop, x_dup2, x_goto, x_ifeq, x_ifne, x_iflt, x_ifge, x_ifgt, x_ifle, x_iceq, x_icne, x_iclt, x_icge, x_icgt, x_icle, x_ifnull, x_ifnonnull, x_ldi, x_lda, x_sti, x_sta, x_iinc, x_gf, x_pf, x_ald, x_ast, x_aln, x_len, x_cl_, x_cv, x_cs, x_rc, x_r0, x_isT, x_oi, x_rv, x_ri, x_ra, Value.category, t19_0, t19_1, t19_2, t19_3, t19_4, t19_7, t19_10, t19_11, t19_12, t19_13, t19_14, t19_17, t19_20, t19_21, t19_22, t19_23, t19_25, t19_27, t19_28, t19_31, t19_32, t19_35, t19_36, t19_38, t19_39, t19_40, t19_41, t19_44, t19_45, t19_47, t19_48, t19_49, t19_52, t19_53, t19_54, t19_57, t19_60, t19_61, lk_s, hp_get, hp_set, uH_at, uH_ne, uH_upd, uH_swap, iZ_add, iZ_sub, iZ_mul, iZ_neg, iZ_lt, iZ_le, iZ_eq, iZ_div, iZ_of, ix_Z, gZ_map, gZ_mapI, gZ_map', le_0, le_s, sZ_map, sZ_len, bZ_0, bZ_inj, bZ_t, bZ_f, nr_i, nr_0, nr_1, nr_b, ft_i, ft_b, ft_0, ft_1, zl_0, zl_1, l0, l1, l2, l3, fa, h2, b2, -List.filter_filter, -List.getElem?_map, -List.getD_eq_getElem?_getD]
end FO
