/-! the reference: variables called anew -/

def rnD (C : List (Int × List Int)) : List (Int × List Int) := C.map (litR (fun v => ((fvs [] (flt C)).idxOf v : Int)))
theorem flt_rnD (C : List (Int × List Int)) : flt (rnD C) = rnm (flt C) := by
  unfold rnD
  rw [flt_ren]
  rfl
theorem stC_map {f : Int × List Int → Int × List Int} (hf : ∀ x, (f x).2.length = x.2.length) : ∀ (C : List (Int × List Int)) (k : Nat), stC (C.map f) k = stC C k
  | [], k => by simp [stC, flt]
  | x :: C, 0 => rfl
  | x :: C, k + 1 => by
    have := stC_map hf C k
    unfold stC at this ⊢
    rw [List.map_cons, List.take_succ_cons, List.take_succ_cons, flt_cons, flt_cons, List.length_append, List.length_append, hf, this]
theorem lC_map {f : Int × List Int → Int × List Int} {C : List (Int × List Int)} {k : Nat} (h : k < C.length) : lC (C.map f) k = f (lC C k) := by
  unfold lC
  rw [List.getD_eq_getElem?_getD, List.getD_eq_getElem?_getD, List.getElem?_map, List.getElem?_eq_getElem h]
  rfl
theorem litR_len (f : Int → Int) (x : Int × List Int) : (litR f x).2.length = x.2.length := by simp [litR, ren]
theorem rnD_len (C : List (Int × List Int)) : (rnD C).length = C.length := by simp [rnD]
theorem rnm_len (t : List Int) : (rnm t).length = t.length := by simp [rnm]
section RN
variable {w : Nat → xC} {N : Nat} {m : Nat → Int} {R Sa Mi Mp : List Int} {C : List (Int × List Int)}
theorem l106_7 (d : Nat) (hN : 53 ≤ N) (hm : w 27 = .inr (8, mF m)) : ∀ (r : Nat) (k : Int) (Q : List Int) (lv : xL), Q.length = 52 → k + r = 52 → 0 ≤ k → c1 lv → x_lk lv 0 = some (.ref 30) → x_lk lv 1 = some (.int (iZ k)) → ∃ lv', c1 lv' ∧ (∀ j, j ≠ 1 → x_lk lv' j = x_lk lv j) ∧ ∀ res, Gx q_k106 d 26 (lv', [], hp (uH w 40 (cI 0 (cpl (0) (fun _ => -1) r k Q))) N) res →
    Gx q_k106 d 7 (lv, [], hp (uH w 40 (cI 0 Q)) N) res := by
  intro r
  induction r with
  | zero =>
    intro k Q lv hQ hk h0 hc l0 l1 
    refine ⟨lv, hc, fun _ _ => rfl, fun res hcont => ?_⟩
    refine Gx.run 60 Cs.tt (fun C _ => ?_) hcont
    have b1 : 52 ≤ k := by omega
    simp (disch := first | (refine c1_id ?_; assumption) | (refine c1_st rfl ?_; repeat (first | assumption | refine c1_st rfl ?_)) | omega) [nx_l, nx_r, nx_n, x_st, x_push, x_bin, x_div, x_un, x_dup, x_pop, x_dup2, x_goto, x_ifeq, x_ifne, x_iflt, x_ifge, x_ifgt, x_ifle, x_iceq, x_icne, x_iclt, x_icge, x_icgt, x_icle, x_ifnull, x_ifnonnull, x_ldi, x_lda, x_sti, x_sta, x_iinc, x_gf, x_pf, x_ald, x_ast, x_aln, x_len, x_cl_, x_cv, x_cs, x_rc, x_r0, x_isT, x_oi, x_rv, x_ri, x_ra, Value.category, t106_0, t106_1, t106_2, t106_5, t106_6, t106_7, t106_8, t106_10, t106_13, t106_14, t106_17, t106_18, t106_19, t106_20, t106_23, t106_26, t106_27, t106_28, t106_29, t106_30, t106_33, t106_36, t106_37, t106_40, t106_41, t106_42, t106_43, t106_44, t106_46, t106_49, t106_50, t106_53, t106_54, t106_55, t106_58, t106_59, t106_62, t106_63, t106_64, t106_67, t106_68, t106_69, t106_70, t106_73, t106_74, t106_75, t106_78, t106_79, t106_82, t106_83, t106_84, t106_87, t106_88, t106_89, t106_90, t106_93, t106_96, lk_s, hp_get, hp_set, uH_at, uH_ne, uH_upd, uH_swap, iZ_add, iZ_sub, iZ_mul, iZ_neg, iZ_lt, iZ_le, iZ_eq, iZ_div, iZ_of, ix_Z, gZ_map, gZ_mapI, gZ_map', le_0, le_s, sZ_map, sZ_len, bZ_0, bZ_inj, bZ_t, bZ_f, nr_i, nr_0, nr_1, nr_b, ft_i, ft_b, ft_0, ft_1, zl_0, zl_1, zl_52, zl_99, mF_len, mg_0, mg_1, mg_2, mg_3, mg_4, mg_5, mg_6, mg_7, mg_8, mg_9, mg_10, mg_11, mg_12, mg_13, mg_14, mg_15, mg_16, mg_17, mg_18, mg_19, mg_20, mg_21, mg_22, mg_23, mg_24, mg_25, mg_26, mg_27, mg_28, mg_29, mg_30, mg_31, mg_32, mg_33, mg_34, mg_35, mg_36, mg_37, mg_38, ms_0, ms_1, ms_2, ms_13, ms_14, ms_15, ms_16, ms_21, ms_22, ms_23, ms_24, ms_28, ms_36, ms_37, ms_38, st_at, st_ne, st_st, st_swap, l0, l1, hm, b1, cpl, -List.filter_filter, -List.getElem?_map, -List.getD_eq_getElem?_getD]
  | succ r ih =>
    intro k Q lv hQ hk h0 hc l0 l1 
    obtain ⟨lv', h1, h2, h3⟩ := ih (k + 1) (sZ Q (0 + k) ((fun _ => -1) k)) (((1 : Nat), .int (iZ (k + 1))) :: List.filter (x_keep 1) lv) (by rw [sZ_len]; exact hQ) (by omega) (by omega) (c1_st rfl hc) (by rw [lk_s hc]; exact l0) (by rw [lk_s hc]; rfl) 
    refine ⟨lv', h1, fun j hj => by rw [h2 j hj, lk_s hc, if_neg (Ne.symm hj)], fun res hcont => ?_⟩
    refine Gx.run 60 Cs.tt (fun C _ => ?_) (h3 res hcont)
    have b1 : ¬ 52 ≤ k := by omega
    simp (disch := first | (refine c1_id ?_; assumption) | (refine c1_st rfl ?_; repeat (first | assumption | refine c1_st rfl ?_)) | omega) [nx_l, nx_r, nx_n, x_st, x_push, x_bin, x_div, x_un, x_dup, x_pop, x_dup2, x_goto, x_ifeq, x_ifne, x_iflt, x_ifge, x_ifgt, x_ifle, x_iceq, x_icne, x_iclt, x_icge, x_icgt, x_icle, x_ifnull, x_ifnonnull, x_ldi, x_lda, x_sti, x_sta, x_iinc, x_gf, x_pf, x_ald, x_ast, x_aln, x_len, x_cl_, x_cv, x_cs, x_rc, x_r0, x_isT, x_oi, x_rv, x_ri, x_ra, Value.category, t106_0, t106_1, t106_2, t106_5, t106_6, t106_7, t106_8, t106_10, t106_13, t106_14, t106_17, t106_18, t106_19, t106_20, t106_23, t106_26, t106_27, t106_28, t106_29, t106_30, t106_33, t106_36, t106_37, t106_40, t106_41, t106_42, t106_43, t106_44, t106_46, t106_49, t106_50, t106_53, t106_54, t106_55, t106_58, t106_59, t106_62, t106_63, t106_64, t106_67, t106_68, t106_69, t106_70, t106_73, t106_74, t106_75, t106_78, t106_79, t106_82, t106_83, t106_84, t106_87, t106_88, t106_89, t106_90, t106_93, t106_96, lk_s, hp_get, hp_set, uH_at, uH_ne, uH_upd, uH_swap, iZ_add, iZ_sub, iZ_mul, iZ_neg, iZ_lt, iZ_le, iZ_eq, iZ_div, iZ_of, ix_Z, gZ_map, gZ_mapI, gZ_map', le_0, le_s, sZ_map, sZ_len, bZ_0, bZ_inj, bZ_t, bZ_f, nr_i, nr_0, nr_1, nr_b, ft_i, ft_b, ft_0, ft_1, zl_0, zl_1, zl_52, zl_99, mF_len, mg_0, mg_1, mg_2, mg_3, mg_4, mg_5, mg_6, mg_7, mg_8, mg_9, mg_10, mg_11, mg_12, mg_13, mg_14, mg_15, mg_16, mg_17, mg_18, mg_19, mg_20, mg_21, mg_22, mg_23, mg_24, mg_25, mg_26, mg_27, mg_28, mg_29, mg_30, mg_31, mg_32, mg_33, mg_34, mg_35, mg_36, mg_37, mg_38, ms_0, ms_1, ms_2, ms_13, ms_14, ms_15, ms_16, ms_21, ms_22, ms_23, ms_24, ms_28, ms_36, ms_37, ms_38, st_at, st_ne, st_st, st_swap, l0, l1, hm, b1, -List.filter_filter, -List.getElem?_map, -List.getD_eq_getElem?_getD]

theorem m106 (d : Nat) (hN : 53 ≤ N) (hm : w 27 = .inr (8, mF m)) (hR : w 38 = cI 0 R) (s1 : R.length = 600) (hM : w 40 = cI 0 Mp) (s2 : Mp.length = 52) (hW : RW C R Sa Mi) (hv : vC C) (e7 : m 7 = (flt C).length) (h7 : (flt C).length ≤ 500) :
    ∃ (w' : Nat → xC) (R' Mp' : List Int), Fr [27, 38, 40] w w' ∧ w' 27 = .inr (8, mF (st_ m 9 (fvs [] (flt C)).length)) ∧ w' 38 = cI 0 R' ∧ R'.length = 600 ∧ w' 40 = cI 0 Mp' ∧ Mp'.length = 52 ∧ RW (rnD C) R' Sa Mi ∧ Xc (d + 1) 106 [.ref 30] (hp w N) (none, hp w' N) := by
  have hok : mpOK [] (cpl 0 (fun _ => -1) 52 0 Mp) := by
    refine ⟨by rw [cpl_len]; exact s2, fun v v0 v1 => ?_⟩
    rw [cpl_at (by omega) (by omega) v0, if_pos (by omega), if_neg (by simp)]
  have hc : c1 (lv_args 0 [.ref 30]) := by simp [c1, lv_args, Value.category]
  have C1 := c1_st (i := 1) (v := .int (iZ 0)) rfl hc
  have hsgn : ∀ s ∈ flt C, 0 ≤ s ∧ s < 100000 ∧ (s < 99 → s < 52) := fun s hs => by
    obtain ⟨x, hx, h⟩ := flt_of hs
    exact (hv x hx).2 s h
  have e0 : hp w N = hp (uH w 40 (cI 0 Mp)) N := by rw [uH_self hM]
  have hm0 : (uH w 27 (.inr (8, mF (st_ m 9 0)))) 27 = .inr (8, mF (st_ m 9 0)) := uH_at _ _ _
  obtain ⟨lv1, h1, h2, h3⟩ := l106_7 (w := uH w 27 (.inr (8, mF (st_ m 9 0)))) d hN hm0 52 0 Mp _ s2 (by omega) (by omega) C1 (by rw [lk_s hc]; rfl) (by rw [lk_s hc]; rfl)
  have C2 := c1_st (i := 1) (v := .int (iZ 0)) rfl h1
  obtain ⟨Mp', g1, g2⟩ := l106_28 d (w := w) (m := m) hN (by omega) (by omega) (flt C) 0 [] R _ _ s1 hok (by simp; omega) (by omega) (by omega) (fun j hj => by rw [Int.zero_add]; exact hW.1 j hj) hsgn C2 (by rw [lk_s h1, h2 0 (by decide), lk_s hc]; rfl) (by rw [lk_s h1]; rfl)
  refine ⟨uH (uH (uH w 27 (.inr (8, mF (st_ m 9 (fvs [] (flt C)).length)))) 38 (cI 0 (wrL R 0 (rnm (flt C))))) 40 (cI 0 Mp'), wrL R 0 (rnm (flt C)), Mp', (((Fr.rf _ _).up (by decide)).up (by decide)).up (by decide), ?_, ?_, ?_, ?_, g1.1, ?_, Xc.of rfl (by simp [lg_sl, Value.category]) ?_ ?_⟩
  rotate_left 5
  · refine Gx.run 20 Cs.tt (fun C _ => ?_) (h3 _ (Gx.run 20 Cs.tt (fun C _ => ?_) g2))
    · have e40 : uH (uH w 27 (.inr (8, mF (st_ m 9 0)))) 40 (cI 0 Mp) = uH w 27 (.inr (8, mF (st_ m 9 0))) := uH_self (by rw [uH_ne (by decide)]; exact hM)
      simp (disch := first | (refine c1_id ?_; assumption) | (refine c1_st rfl ?_; repeat (first | assumption | refine c1_st rfl ?_)) | omega) [nx_l, nx_r, nx_n, x_st, x_push, x_bin, x_div, x_un, x_dup, x_pop, x_dup2, x_goto, x_ifeq, x_ifne, x_iflt, x_ifge, x_ifgt, x_ifle, x_iceq, x_icne, x_iclt, x_icge, x_icgt, x_icle, x_ifnull, x_ifnonnull, x_ldi, x_lda, x_sti, x_sta, x_iinc, x_gf, x_pf, x_ald, x_ast, x_aln, x_len, x_cl_, x_cv, x_cs, x_rc, x_r0, x_isT, x_oi, x_rv, x_ri, x_ra, Value.category, t106_0, t106_1, t106_2, t106_5, t106_6, t106_7, t106_8, t106_10, t106_13, t106_14, t106_17, t106_18, t106_19, t106_20, t106_23, t106_26, t106_27, t106_28, t106_29, t106_30, t106_33, t106_36, t106_37, t106_40, t106_41, t106_42, t106_43, t106_44, t106_46, t106_49, t106_50, t106_53, t106_54, t106_55, t106_58, t106_59, t106_62, t106_63, t106_64, t106_67, t106_68, t106_69, t106_70, t106_73, t106_74, t106_75, t106_78, t106_79, t106_82, t106_83, t106_84, t106_87, t106_88, t106_89, t106_90, t106_93, t106_96, lk_s, hp_get, hp_set, uH_at, uH_ne, uH_upd, uH_swap, iZ_add, iZ_sub, iZ_mul, iZ_neg, iZ_lt, iZ_le, iZ_eq, iZ_div, iZ_of, ix_Z, gZ_map, gZ_mapI, gZ_map', le_0, le_s, sZ_map, sZ_len, bZ_0, bZ_inj, bZ_t, bZ_f, nr_i, nr_0, nr_1, nr_b, ft_i, ft_b, ft_0, ft_1, zl_0, zl_1, zl_52, zl_99, mF_len, mg_0, mg_1, mg_2, mg_3, mg_4, mg_5, mg_6, mg_7, mg_8, mg_9, mg_10, mg_11, mg_12, mg_13, mg_14, mg_15, mg_16, mg_17, mg_18, mg_19, mg_20, mg_21, mg_22, mg_23, mg_24, mg_25, mg_26, mg_27, mg_28, mg_29, mg_30, mg_31, mg_32, mg_33, mg_34, mg_35, mg_36, mg_37, mg_38, ms_0, ms_1, ms_2, ms_13, ms_14, ms_15, ms_16, ms_21, ms_22, ms_23, ms_24, ms_28, ms_36, ms_37, ms_38, st_at, st_ne, st_st, st_swap, lv_args, x_lk, hm, hM, e40, -List.filter_filter, -List.getElem?_map, -List.getD_eq_getElem?_getD]
    · have e38 : uH (uH w 27 (.inr (8, mF (st_ m 9 0)))) 38 (cI 0 R) = uH w 27 (.inr (8, mF (st_ m 9 0))) := uH_self (by rw [uH_ne (by decide)]; exact hR)
      simp (disch := first | (refine c1_id ?_; assumption) | (refine c1_st rfl ?_; repeat (first | assumption | refine c1_st rfl ?_)) | omega) [nx_l, nx_r, nx_n, x_st, x_push, x_bin, x_div, x_un, x_dup, x_pop, x_dup2, x_goto, x_ifeq, x_ifne, x_iflt, x_ifge, x_ifgt, x_ifle, x_iceq, x_icne, x_iclt, x_icge, x_icgt, x_icle, x_ifnull, x_ifnonnull, x_ldi, x_lda, x_sti, x_sta, x_iinc, x_gf, x_pf, x_ald, x_ast, x_aln, x_len, x_cl_, x_cv, x_cs, x_rc, x_r0, x_isT, x_oi, x_rv, x_ri, x_ra, Value.category, t106_0, t106_1, t106_2, t106_5, t106_6, t106_7, t106_8, t106_10, t106_13, t106_14, t106_17, t106_18, t106_19, t106_20, t106_23, t106_26, t106_27, t106_28, t106_29, t106_30, t106_33, t106_36, t106_37, t106_40, t106_41, t106_42, t106_43, t106_44, t106_46, t106_49, t106_50, t106_53, t106_54, t106_55, t106_58, t106_59, t106_62, t106_63, t106_64, t106_67, t106_68, t106_69, t106_70, t106_73, t106_74, t106_75, t106_78, t106_79, t106_82, t106_83, t106_84, t106_87, t106_88, t106_89, t106_90, t106_93, t106_96, lk_s, hp_get, hp_set, uH_at, uH_ne, uH_upd, uH_swap, iZ_add, iZ_sub, iZ_mul, iZ_neg, iZ_lt, iZ_le, iZ_eq, iZ_div, iZ_of, ix_Z, gZ_map, gZ_mapI, gZ_map', le_0, le_s, sZ_map, sZ_len, bZ_0, bZ_inj, bZ_t, bZ_f, nr_i, nr_0, nr_1, nr_b, ft_i, ft_b, ft_0, ft_1, zl_0, zl_1, zl_52, zl_99, mF_len, mg_0, mg_1, mg_2, mg_3, mg_4, mg_5, mg_6, mg_7, mg_8, mg_9, mg_10, mg_11, mg_12, mg_13, mg_14, mg_15, mg_16, mg_17, mg_18, mg_19, mg_20, mg_21, mg_22, mg_23, mg_24, mg_25, mg_26, mg_27, mg_28, mg_29, mg_30, mg_31, mg_32, mg_33, mg_34, mg_35, mg_36, mg_37, mg_38, ms_0, ms_1, ms_2, ms_13, ms_14, ms_15, ms_16, ms_21, ms_22, ms_23, ms_24, ms_28, ms_36, ms_37, ms_38, st_at, st_ne, st_st, st_swap, rnH, h2, lk_s, e38, -List.filter_filter, -List.getElem?_map, -List.getD_eq_getElem?_getD]
  · exact hp_le (Nat.le_refl _) (fun j _ => by (simp only [uH]; repeat' split) <;> simp_all [x_c1, sZ_len, cpl_len, mF_len, wrL_len, mpOK])
  · rw [uH_ne (by decide), uH_ne (by decide), uH_at]
  · rw [uH_ne (by decide), uH_at]
  · rw [wrL_len]; exact s1
  · rw [uH_at]
  · have ew : ∀ j : Nat, j < (flt C).length → gZ (wrL R 0 (rnm (flt C))) j = (rnm (flt C)).getD j 0 := fun j hj => by
      have := wrL_at (R := R) (l := rnm (flt C)) (i := 0) (j := j) (by omega) (by rw [rnm_len]; omega) (by rw [rnm_len]; exact hj)
      rw [Int.zero_add] at this
      exact this
    refine ⟨fun j hj => ?_, fun k hk => ?_, fun k hk => ?_⟩
    · rw [flt_rnD, rnm_len] at hj
      rw [flt_rnD]
      exact ew j hj
    · rw [rnD_len] at hk
      unfold rnD
      rw [stC_map (litR_len _)]
      exact hW.2.1 k hk
    · rw [rnD_len] at hk
      unfold rnD
      rw [lC_map hk]
      exact hW.2.2 k hk
end RN
