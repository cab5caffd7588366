/-! the class: variables called anew -/

def mrk (q : List Int) (s : Int) : Int := if s < 99 ∧ s ∈ q then -((q.idxOf s : Int) + 1) else vc s
def rpl (sy by_ : Int) : Nat → Int → List Int → List Int
  | 0, _, S => S
  | r + 1, k, S => rpl sy by_ r (k + 1) (if gZ S k = sy then sZ S k by_ else S)
theorem rpl_len (sy by_ : Int) : ∀ (r : Nat) (k : Int) (S : List Int), (rpl sy by_ r k S).length = S.length
  | 0, _, _ => rfl
  | r + 1, k, S => by
    show (rpl sy by_ r (k + 1) (if gZ S k = sy then sZ S k by_ else S)).length = _
    rw [rpl_len sy by_ r]
    split
    · rw [sZ_len]
    · rfl
theorem rpl_at {sy by_ : Int} : ∀ (r : Nat) (k : Int) (S : List Int) (j : Int), 0 ≤ k → k + r ≤ S.length → 0 ≤ j → gZ (rpl sy by_ r k S) j = if k ≤ j ∧ j < k + r ∧ gZ S j = sy then by_ else gZ S j
  | 0, k, S, j, h0, h1, j0 => by
    rw [if_neg (by omega)]
    rfl
  | r + 1, k, S, j, h0, h1, j0 => by
    show gZ (rpl sy by_ r (k + 1) (if gZ S k = sy then sZ S k by_ else S)) j = _
    by_cases hk : gZ S k = sy
    · rw [if_pos hk, rpl_at r (k + 1) _ j (by omega) (by rw [sZ_len]; omega) j0, gZ_sZ h0 (by omega) j0]
      by_cases ej : k = j
      · subst ej
        rw [if_pos rfl, if_neg (by omega), if_pos ⟨by omega, by omega, hk⟩]
      · rw [if_neg ej]
        by_cases hj : k + 1 ≤ j ∧ j < k + 1 + r ∧ gZ S j = sy
        · rw [if_pos hj, if_pos ⟨by omega, by omega, hj.2.2⟩]
        · rw [if_neg hj, if_neg (fun z => hj ⟨by omega, by omega, z.2.2⟩)]
    · rw [if_neg hk, rpl_at r (k + 1) _ j (by omega) (by omega) j0]
      by_cases hj : k + 1 ≤ j ∧ j < k + 1 + r ∧ gZ S j = sy
      · rw [if_pos hj, if_pos ⟨by omega, by omega, hj.2.2⟩]
      · rw [if_neg hj, if_neg (fun z => by
          by_cases ej : k = j
          · subst ej
            exact hk z.2.2
          · exact hj ⟨by omega, by omega, z.2.2⟩)]
section NV
variable {w : Nat → xC} {N a : Nat} {E B : List Int} {c l o : Int} {C : List (Int × List Int)}
theorem fo.set {S S' : List Int} (hf : fo w a S E B c l o) : fo (uH w (a + 1) (cI 0 S')) a S' E B c l o := by
  obtain ⟨fa, fs, fe, fg⟩ := hf
  exact ⟨by rw [uH_ne (by omega)]; exact fa, uH_at _ _ _, by rw [uH_ne (by omega)]; exact fe, by rw [uH_ne (by omega)]; exact fg⟩
theorem l22 (d : Nat) (sy by_ : Int) (sr : -2147483648 ≤ sy ∧ sy < 2147483648) (l0_ : 0 ≤ l) (l9 : l < 10000) (na : a + 3 < N) : ∀ (r : Nat) (k : Int) (S : List Int) (w : Nat → xC) (lv : xL), k + r = l → 0 ≤ k → l ≤ S.length → S.length < 10000 → (∀ j, 0 ≤ j → j < l → -2147483648 ≤ gZ S j ∧ gZ S j < 2147483648) → (-2147483648 ≤ by_ ∧ by_ < 2147483648) → fo w a S E B c l o → c1 lv → x_lk lv 0 = some (.ref (a + 3)) → x_lk lv 2 = some (.int (iZ sy)) → x_lk lv 3 = some (.int (iZ by_)) → x_lk lv 4 = some (.int (iZ k)) → Gx q_k22 d 3 (lv, [], hp w N) (none, hp (uH w (a + 1) (cI 0 (rpl sy by_ r k S))) N) := by
  intro r
  induction r with
  | zero =>
    intro k S w lv hk k0 lS lS9 hr br hf hc l0 l2 l3 l4
    obtain ⟨fa, fs, fe, fg⟩ := hf
    have b1 : l ≤ k := by omega
    have ew : uH w (a + 1) (cI 0 (rpl sy by_ 0 k S)) = w := uH_self fs
    rw [ew]
    refine Gx.fin 20 Cs.tt (fun K _ => ?_)
    simp (disch := first | (refine c1_id ?_; assumption) | (refine c1_st rfl ?_; repeat (first | assumption | refine c1_st rfl ?_)) | omega) [nx_l, nx_r, nx_n, x_st, x_push, x_bin, x_div, x_un, x_dup, x_pop, x_dup2, x_goto, x_ifeq, x_ifne, x_iflt, x_ifge, x_ifgt, x_ifle, x_iceq, x_icne, x_iclt, x_icge, x_icgt, x_icle, x_ifnull, x_ifnonnull, x_ldi, x_lda, x_sti, x_sta, x_iinc, x_gf, x_pf, x_ald, x_ast, x_aln, x_len, x_cl_, x_cv, x_cs, x_rc, x_r0, x_isT, x_oi, x_rv, x_ri, x_ra, Value.category, t22_0, t22_1, t22_3, t22_5, t22_6, t22_9, t22_12, t22_13, t22_16, t22_18, t22_19, t22_20, t22_23, t22_24, t22_27, t22_29, t22_30, t22_31, t22_34, t22_37, lk_s, hp_get, hp_set, uH_at, uH_ne, uH_upd, uH_swap, iZ_add, iZ_sub, iZ_mul, iZ_neg, iZ_lt, iZ_le, iZ_eq, iZ_div, iZ_of, ix_Z, gZ_map, gZ_mapI, gZ_map', le_0, le_s, sZ_map, sZ_len, bZ_0, bZ_inj, bZ_t, bZ_f, nr_i, nr_0, nr_1, nr_b, ft_i, ft_b, ft_0, ft_1, zl_0, zl_1, l0, l2, l3, l4, fa, b1, -List.filter_filter, -List.getElem?_map, -List.getD_eq_getElem?_getD]
  | succ r ih =>
    intro k S w lv hk k0 lS lS9 hr br hf hc l0 l2 l3 l4
    have hf' := hf
    obtain ⟨fa, fs, fe, fg⟩ := hf'
    have b1 : ¬ l ≤ k := by omega
    have rk := hr k k0 (by omega)
    have rk0 := rk.1
    have rk1 := rk.2
    have sr0 := sr.1
    have sr1 := sr.2
    have C4 := c1_st (i := 4) (v := .int (iZ (k + 1))) rfl hc
    by_cases he : gZ S k = sy
    · have er : rpl sy by_ (r + 1) k S = rpl sy by_ r (k + 1) (sZ S k by_) := by
        show rpl sy by_ r (k + 1) (if gZ S k = sy then sZ S k by_ else S) = _
        rw [if_pos he]
      rw [er]
      obtain ⟨w1, hw1⟩ : ∃ w1, w1 = uH w (a + 1) (cI 0 (sZ S k by_)) := ⟨_, rfl⟩
      have g := ih (k + 1) (sZ S k by_) w1 ((4, .int (iZ (k + 1))) :: lv.filter (x_keep 4)) (by omega) (by omega) (by rw [sZ_len]; exact lS) (by rw [sZ_len]; exact lS9) (fun j j0 j1 => by
        rw [gZ_sZ k0 (by omega) j0]
        split
        · exact br
        · exact hr j j0 j1) br (by rw [hw1]; exact hf.set) C4 (by rw [lk_s hc]; exact l0) (by rw [lk_s hc]; exact l2) (by rw [lk_s hc]; exact l3) (by rw [lk_s hc]; rfl)
      have ew : uH w1 (a + 1) (cI 0 (rpl sy by_ r (k + 1) (sZ S k by_))) = uH w (a + 1) (cI 0 (rpl sy by_ r (k + 1) (sZ S k by_))) := by rw [hw1, uH_upd]
      rw [ew] at g
      refine Gx.run 40 Cs.tt (fun K _ => ?_) g
      rw [hw1]
      simp (disch := first | (refine c1_id ?_; assumption) | (refine c1_st rfl ?_; repeat (first | assumption | refine c1_st rfl ?_)) | omega) [nx_l, nx_r, nx_n, x_st, x_push, x_bin, x_div, x_un, x_dup, x_pop, x_dup2, x_goto, x_ifeq, x_ifne, x_iflt, x_ifge, x_ifgt, x_ifle, x_iceq, x_icne, x_iclt, x_icge, x_icgt, x_icle, x_ifnull, x_ifnonnull, x_ldi, x_lda, x_sti, x_sta, x_iinc, x_gf, x_pf, x_ald, x_ast, x_aln, x_len, x_cl_, x_cv, x_cs, x_rc, x_r0, x_isT, x_oi, x_rv, x_ri, x_ra, Value.category, t22_0, t22_1, t22_3, t22_5, t22_6, t22_9, t22_12, t22_13, t22_16, t22_18, t22_19, t22_20, t22_23, t22_24, t22_27, t22_29, t22_30, t22_31, t22_34, t22_37, lk_s, hp_get, hp_set, uH_at, uH_ne, uH_upd, uH_swap, iZ_add, iZ_sub, iZ_mul, iZ_neg, iZ_lt, iZ_le, iZ_eq, iZ_div, iZ_of, ix_Z, gZ_map, gZ_mapI, gZ_map', le_0, le_s, sZ_map, sZ_len, bZ_0, bZ_inj, bZ_t, bZ_f, nr_i, nr_0, nr_1, nr_b, ft_i, ft_b, ft_0, ft_1, zl_0, zl_1, l0, l2, l3, l4, fa, fs, b1, he, -List.filter_filter, -List.getElem?_map, -List.getD_eq_getElem?_getD]
    · have er : rpl sy by_ (r + 1) k S = rpl sy by_ r (k + 1) S := by
        show rpl sy by_ r (k + 1) (if gZ S k = sy then sZ S k by_ else S) = _
        rw [if_neg he]
      rw [er]
      have g := ih (k + 1) S w ((4, .int (iZ (k + 1))) :: lv.filter (x_keep 4)) (by omega) (by omega) lS lS9 hr br hf C4 (by rw [lk_s hc]; exact l0) (by rw [lk_s hc]; exact l2) (by rw [lk_s hc]; exact l3) (by rw [lk_s hc]; rfl)
      refine Gx.run 40 Cs.tt (fun K _ => ?_) g
      simp (disch := first | (refine c1_id ?_; assumption) | (refine c1_st rfl ?_; repeat (first | assumption | refine c1_st rfl ?_)) | omega) [nx_l, nx_r, nx_n, x_st, x_push, x_bin, x_div, x_un, x_dup, x_pop, x_dup2, x_goto, x_ifeq, x_ifne, x_iflt, x_ifge, x_ifgt, x_ifle, x_iceq, x_icne, x_iclt, x_icge, x_icgt, x_icle, x_ifnull, x_ifnonnull, x_ldi, x_lda, x_sti, x_sta, x_iinc, x_gf, x_pf, x_ald, x_ast, x_aln, x_len, x_cl_, x_cv, x_cs, x_rc, x_r0, x_isT, x_oi, x_rv, x_ri, x_ra, Value.category, t22_0, t22_1, t22_3, t22_5, t22_6, t22_9, t22_12, t22_13, t22_16, t22_18, t22_19, t22_20, t22_23, t22_24, t22_27, t22_29, t22_30, t22_31, t22_34, t22_37, lk_s, hp_get, hp_set, uH_at, uH_ne, uH_upd, uH_swap, iZ_add, iZ_sub, iZ_mul, iZ_neg, iZ_lt, iZ_le, iZ_eq, iZ_div, iZ_of, ix_Z, gZ_map, gZ_mapI, gZ_map', le_0, le_s, sZ_map, sZ_len, bZ_0, bZ_inj, bZ_t, bZ_f, nr_i, nr_0, nr_1, nr_b, ft_i, ft_b, ft_0, ft_1, zl_0, zl_1, l0, l2, l3, l4, fa, fs, b1, he, -List.filter_filter, -List.getElem?_map, -List.getD_eq_getElem?_getD]
theorem m22 (d : Nat) {S : List Int} (fr sy by_ : Int) (sr : -2147483648 ≤ sy ∧ sy < 2147483648) (br : -2147483648 ≤ by_ ∧ by_ < 2147483648) (f0 : 0 ≤ fr) (f1 : fr ≤ l) (l9 : l < 10000) (na : a + 3 < N) (lS : l ≤ S.length) (lS9 : S.length < 10000) (hr : ∀ j, 0 ≤ j → j < l → -2147483648 ≤ gZ S j ∧ gZ S j < 2147483648) (hf : fo w a S E B c l o) : Xc (d + 1) 22 [.ref (a + 3), .int (iZ fr), .int (iZ sy), .int (iZ by_)] (hp w N) (none, hp (uH w (a + 1) (cI 0 (rpl sy by_ (l - fr).toNat fr S))) N) := by
  have hc : c1 (lv_args 0 [.ref (a + 3), .int (iZ fr), .int (iZ sy), .int (iZ by_)]) := by simp [c1, lv_args, Value.category]
  have l0 : x_lk (lv_args 0 [.ref (a + 3), .int (iZ fr), .int (iZ sy), .int (iZ by_)]) 0 = some (.ref (a + 3)) := rfl
  have l1 : x_lk (lv_args 0 [.ref (a + 3), .int (iZ fr), .int (iZ sy), .int (iZ by_)]) 1 = some (.int (iZ fr)) := rfl
  have l2 : x_lk (lv_args 0 [.ref (a + 3), .int (iZ fr), .int (iZ sy), .int (iZ by_)]) 2 = some (.int (iZ sy)) := rfl
  have l3 : x_lk (lv_args 0 [.ref (a + 3), .int (iZ fr), .int (iZ sy), .int (iZ by_)]) 3 = some (.int (iZ by_)) := rfl
  have C4 := c1_st (i := 4) (v := .int (iZ fr)) rfl hc
  have g := l22 d sy by_ sr (by omega) l9 na (l - fr).toNat fr S w _ (by omega) f0 lS lS9 hr br hf C4 (by rw [lk_s hc]; exact l0) (by rw [lk_s hc]; exact l2) (by rw [lk_s hc]; exact l3) (by rw [lk_s hc]; rfl)
  have fs := hf.2.1
  refine Xc.of rfl (by simp [lg_sl, Value.category]) (Gx.run 20 Cs.tt (fun K _ => ?_) g) (hp_le (Nat.le_refl _) (fun j _ => ?_))
  · generalize lv_args 0 [.ref (a + 3), .int (iZ fr), .int (iZ sy), .int (iZ by_)] = lv at hc l0 l1 l2 l3
    simp (disch := first | (refine c1_id ?_; assumption) | (refine c1_st rfl ?_; repeat (first | assumption | refine c1_st rfl ?_)) | omega) [nx_l, nx_r, nx_n, x_st, x_push, x_bin, x_div, x_un, x_dup, x_pop, x_dup2, x_goto, x_ifeq, x_ifne, x_iflt, x_ifge, x_ifgt, x_ifle, x_iceq, x_icne, x_iclt, x_icge, x_icgt, x_icle, x_ifnull, x_ifnonnull, x_ldi, x_lda, x_sti, x_sta, x_iinc, x_gf, x_pf, x_ald, x_ast, x_aln, x_len, x_cl_, x_cv, x_cs, x_rc, x_r0, x_isT, x_oi, x_rv, x_ri, x_ra, Value.category, t22_0, t22_1, t22_3, t22_5, t22_6, t22_9, t22_12, t22_13, t22_16, t22_18, t22_19, t22_20, t22_23, t22_24, t22_27, t22_29, t22_30, t22_31, t22_34, t22_37, lk_s, hp_get, hp_set, uH_at, uH_ne, uH_upd, uH_swap, iZ_add, iZ_sub, iZ_mul, iZ_neg, iZ_lt, iZ_le, iZ_eq, iZ_div, iZ_of, ix_Z, gZ_map, gZ_mapI, gZ_map', le_0, le_s, sZ_map, sZ_len, bZ_0, bZ_inj, bZ_t, bZ_f, nr_i, nr_0, nr_1, nr_b, ft_i, ft_b, ft_0, ft_1, zl_0, zl_1, l0, l1, -List.filter_filter, -List.getElem?_map, -List.getD_eq_getElem?_getD]
  · by_cases hj : j = a + 1
    · rw [hj, fs, uH_at]
      simp [x_c1, rpl_len]
    · rw [uH_ne hj]
      exact Nat.le_refl _
theorem mrk_rng {q : List Int} {s : Int} (h : sgV s) (hq : q.length < 1000) : -1001 ≤ mrk q s ∧ mrk q s < 520 := by
  unfold mrk
  split
  · have := List.idxOf_le_length (l := q) (a := s)
    omega
  · have := vc_rng h
    omega
set_option maxHeartbeats 1000000 in
theorem l21a (d : Nat) (na : a + 3 < N) (hg : gV C) (f9 : (flt C).length ≤ 80) : ∀ (t q : List Int) (p : Nat) (S : List Int) (w : Nat → xC) (lv : xL), (flt C).drop p = t → p + t.length = (flt C).length → q.length + t.length ≤ 80 → (flt C).length ≤ S.length → S.length < 10000 → (∀ v ∈ q, v < 99) → (∀ v ∈ (flt C).take p, v < 99 → v ∈ q) → (∀ j : Nat, j < (flt C).length → gZ S j = mrk q ((flt C).getD j 0)) → fo w a S E B c (flt C).length o → c1 lv → x_lk lv 0 = some (.ref (a + 3)) → x_lk lv 1 = some (.int (iZ (q.length : Int))) → x_lk lv 2 = some (.int (iZ (p : Int))) → ∃ (S' : List Int) (lv' : xL), S'.length = S.length ∧ (∀ j : Nat, j < (flt C).length → gZ S' j = mrk (fvs q t) ((flt C).getD j 0)) ∧ c1 lv' ∧ x_lk lv' 0 = some (.ref (a + 3)) ∧ x_lk lv' 1 = some (.int (iZ ((fvs q t).length : Int))) ∧ ∀ res, Gx q_k21 (d + 1) 46 (lv', [], hp (uH w (a + 1) (cI 0 S')) N) res → Gx q_k21 (d + 1) 4 (lv, [], hp w N) res := by
  intro t
  induction t with
  | nil =>
    intro q p S w lv ht hp1 hq9 lS lS9 hq hsn hS hf hc l0 l1 l2
    simp only [List.length_nil, Nat.add_zero] at hp1
    have hf' := hf
    obtain ⟨fa, fs, fe, fg⟩ := hf'
    refine ⟨S, lv, rfl, hS, hc, l0, l1, fun res hgg => ?_⟩
    rw [uH_self fs] at hgg
    refine Gx.run 20 Cs.tt (fun K _ => ?_) hgg
    subst hp1
    have f99 : ((flt C).length : Int) ≤ 80 := by omega
    simp (disch := first | (refine c1_id ?_; assumption) | (refine c1_st rfl ?_; repeat (first | assumption | refine c1_st rfl ?_)) | omega) [nx_l, nx_r, nx_n, x_st, x_push, x_bin, x_div, x_un, x_dup, x_pop, x_dup2, x_goto, x_ifeq, x_ifne, x_iflt, x_ifge, x_ifgt, x_ifle, x_iceq, x_icne, x_iclt, x_icge, x_icgt, x_icle, x_ifnull, x_ifnonnull, x_ldi, x_lda, x_sti, x_sta, x_iinc, x_gf, x_pf, x_ald, x_ast, x_aln, x_len, x_cl_, x_cv, x_cs, x_rc, x_r0, x_isT, x_oi, x_rv, x_ri, x_ra, Value.category, t21_0, t21_1, t21_2, t21_3, t21_4, t21_5, t21_6, t21_9, t21_12, t21_13, t21_16, t21_17, t21_18, t21_21, t21_24, t21_27, t21_28, t21_29, t21_30, t21_33, t21_34, t21_35, t21_36, t21_37, t21_40, t21_43, t21_46, t21_47, t21_48, t21_49, t21_50, t21_53, t21_56, t21_57, t21_60, t21_61, t21_62, t21_65, t21_66, t21_69, t21_70, t21_71, t21_74, t21_75, t21_76, t21_77, t21_78, t21_79, t21_82, t21_83, t21_86, t21_89, t21_90, lk_s, hp_get, hp_set, uH_at, uH_ne, uH_upd, uH_swap, iZ_add, iZ_sub, iZ_mul, iZ_neg, iZ_lt, iZ_le, iZ_eq, iZ_div, iZ_of, ix_Z, gZ_map, gZ_mapI, gZ_map', le_0, le_s, sZ_map, sZ_len, bZ_0, bZ_inj, bZ_t, bZ_f, nr_i, nr_0, nr_1, nr_b, ft_i, ft_b, ft_0, ft_1, zl_0, zl_1, l0, l1, l2, fa, -List.filter_filter, -List.getElem?_map, -List.getD_eq_getElem?_getD]
  | cons s t ih =>
    intro q p S w lv ht hp1 hq9 lS lS9 hq hsn hS hf hc l0 l1 l2
    simp only [List.length_cons] at hp1 hq9
    have hpl : p < (flt C).length := by omega
    have hf' := hf
    obtain ⟨fa, fs, fe, fg⟩ := hf'
    have hd := drop_gt hpl
    rw [ht] at hd
    injection hd with hd1 hd2
    have hsp := hS p hpl
    rw [← hd1] at hsp
    have sgs : sgV s := by rw [hd1]; exact hg.sg hpl
    have mr := mrk_rng sgs (q := q) (by omega)
    have b1 : ¬ ((flt C).length : Int) ≤ (p : Int) := by omega
    have f99 : ((flt C).length : Int) ≤ 80 := by omega
    have C2 := c1_st (i := 2) (v := .int (iZ ((p : Int) + 1))) rfl hc
    have tk1 : (flt C).take (p + 1) = (flt C).take p ++ [s] := by
      rw [List.take_succ, List.getElem?_eq_getElem hpl, hd1, List.getD_eq_getElem?_getD, List.getElem?_eq_getElem hpl]
      rfl
    by_cases hv : s < 99 ∧ ¬ s ∈ q
    · have ef : fvs q (s :: t) = fvs (q ++ [s]) t := by
        conv => lhs; unfold fvs
        rw [if_pos hv]
      rw [ef]
      have em : mrk q s = vc s := if_neg (fun z => hv.2 z.2)
      have ev : vc s = 128 + 4 * s := if_pos hv.1
      rw [em] at hsp mr
      have X1 := m2 d w N (vc s) (by omega) (by omega)
      rw [decide_eq_true (by have := sgs.1; omega), bZ_t] at X1
      have X2 := m22 (N := N) d (p : Int) (vc s) (-((q.length : Int) + 1)) (by omega) (by omega) (by omega) (by omega) (by omega) na (by omega) lS9 (fun j j0 j1 => by
        have := hS j.toNat (by omega)
        rw [show ((j.toNat : Nat) : Int) = j by omega] at this
        rw [this]
        have := mrk_rng (hg.sg (j := j.toNat) (by omega)) (q := q) (by omega)
        omega) hf
      obtain ⟨S1, hS1⟩ : ∃ S1, S1 = rpl (vc s) (-((q.length : Int) + 1)) (((flt C).length : Int) - (p : Int)).toNat (p : Int) S := ⟨_, rfl⟩
      obtain ⟨w1, hw1⟩ : ∃ w1, w1 = uH w (a + 1) (cI 0 S1) := ⟨_, rfl⟩
      rw [← hS1, ← hw1] at X2
      have nS1 : S1.length = S.length := by rw [hS1, rpl_len]
      have aS1 : ∀ j : Nat, j < (flt C).length → gZ S1 j = mrk (q ++ [s]) ((flt C).getD j 0) := fun j hj => by
        rw [hS1, rpl_at _ _ _ _ (by omega) (by omega) (by omega), hS j hj]
        have sgj := hg.sg hj
        obtain ⟨u, hu⟩ : ∃ u, u = (flt C).getD j 0 := ⟨_, rfl⟩
        rw [← hu] at sgj ⊢
        by_cases hus : u = s
        · subst hus
          have pj : p ≤ j := by
            by_cases z : p ≤ j
            · exact z
            · exfalso
              refine hv.2 (hsn u ?_ hv.1)
              rw [hu, List.getD_eq_getElem?_getD, List.getElem?_eq_getElem hj]
              have : (flt C)[j] ∈ (flt C).take p := by
                rw [List.mem_take_iff_getElem]
                exact ⟨j, by omega, rfl⟩
              exact this
          rw [em, if_pos ⟨by omega, by omega, rfl⟩]
          unfold mrk
          rw [if_pos ⟨hv.1, List.mem_append_right _ List.mem_cons_self⟩, List.idxOf_append, if_neg hv.2]
          simp
        · have hne : ¬ mrk q u = vc s := by
            unfold mrk
            split
            · have := vc_rng sgs
              omega
            · exact fun z => hus (vc_inj sgj sgs z)
          rw [if_neg (fun z => hne z.2.2)]
          unfold mrk
          by_cases hum : u < 99 ∧ u ∈ q
          · rw [if_pos hum, if_pos ⟨hum.1, List.mem_append_left _ hum.2⟩, List.idxOf_append, if_pos hum.2]
          · rw [if_neg hum, if_neg (fun z => by
              rcases List.mem_append.mp z.2 with y | y
              · exact hum ⟨z.1, y⟩
              · rw [List.mem_singleton] at y
                exact hus y)]
      have D1 := c1_st (i := 1) (v := .int (iZ ((q.length : Int) + 1))) rfl hc
      have D2 := c1_st (i := 2) (v := .int (iZ ((p : Int) + 1))) rfl D1
      obtain ⟨S', lv', a1, a2, a3, a4, a5, a6⟩ := ih (q ++ [s]) (p + 1) S1 w1 ((2, .int (iZ ((p : Int) + 1))) :: List.filter (x_keep 2) ((1, .int (iZ ((q.length : Int) + 1))) :: lv.filter (x_keep 1))) hd2.symm (by omega) (by simp; omega) (by omega) (by omega) (fun v hvv => by
        rcases List.mem_append.mp hvv with z | z
        · exact hq v z
        · rw [List.mem_singleton] at z
          rw [z]
          exact hv.1) (fun v hvv h9 => by
        rw [tk1] at hvv
        rcases List.mem_append.mp hvv with z | z
        · exact List.mem_append_left _ (hsn v z h9)
        · exact List.mem_append_right _ z) aS1 (by rw [hw1]; exact hf.set) D2 (by rw [lk_s D1, lk_s hc]; exact l0) (by rw [lk_s D1, lk_s hc]; simp) (by rw [lk_s D1]; rfl)
      refine ⟨S', lv', by omega, a2, a3, a4, a5, fun res hgg => ?_⟩
      have ew : uH w1 (a + 1) (cI 0 S') = uH w (a + 1) (cI 0 S') := by rw [hw1, uH_upd]
      rw [ew] at a6
      refine Gx.run 60 (X1.and X2) (fun K mm => ?_) (a6 res hgg)
      obtain ⟨mm1, mm2⟩ := mm
      obtain ⟨vv, hvv⟩ : ∃ vv : Int, vv = vc s := ⟨_, rfl⟩
      rw [← hvv] at mm1 mm2 hsp
      have eneg : -((q.length : Int) + 1) = -1 + -(q.length : Int) := by omega
      have q80 : (q.length : Int) ≤ 80 := by omega
      simp (disch := first | (refine c1_id ?_; assumption) | (refine c1_st rfl ?_; repeat (first | assumption | refine c1_st rfl ?_)) | omega) [nx_l, nx_r, nx_n, x_st, x_push, x_bin, x_div, x_un, x_dup, x_pop, x_dup2, x_goto, x_ifeq, x_ifne, x_iflt, x_ifge, x_ifgt, x_ifle, x_iceq, x_icne, x_iclt, x_icge, x_icgt, x_icle, x_ifnull, x_ifnonnull, x_ldi, x_lda, x_sti, x_sta, x_iinc, x_gf, x_pf, x_ald, x_ast, x_aln, x_len, x_cl_, x_cv, x_cs, x_rc, x_r0, x_isT, x_oi, x_rv, x_ri, x_ra, Value.category, t21_0, t21_1, t21_2, t21_3, t21_4, t21_5, t21_6, t21_9, t21_12, t21_13, t21_16, t21_17, t21_18, t21_21, t21_24, t21_27, t21_28, t21_29, t21_30, t21_33, t21_34, t21_35, t21_36, t21_37, t21_40, t21_43, t21_46, t21_47, t21_48, t21_49, t21_50, t21_53, t21_56, t21_57, t21_60, t21_61, t21_62, t21_65, t21_66, t21_69, t21_70, t21_71, t21_74, t21_75, t21_76, t21_77, t21_78, t21_79, t21_82, t21_83, t21_86, t21_89, t21_90, lk_s, hp_get, hp_set, uH_at, uH_ne, uH_upd, uH_swap, iZ_add, iZ_sub, iZ_mul, iZ_neg, iZ_lt, iZ_le, iZ_eq, iZ_div, iZ_of, ix_Z, gZ_map, gZ_mapI, gZ_map', le_0, le_s, sZ_map, sZ_len, bZ_0, bZ_inj, bZ_t, bZ_f, nr_i, nr_0, nr_1, nr_b, ft_i, ft_b, ft_0, ft_1, zl_0, zl_1, l0, l1, l2, fa, fs, hsp, b1, mm1, mm2, -List.filter_filter, -List.getElem?_map, -List.getD_eq_getElem?_getD]
    · have ef : fvs q (s :: t) = fvs q t := by
        conv => lhs; unfold fvs
        rw [if_neg hv]
      rw [ef]
      have X1 := m2 d w N (mrk q s) (by omega) (by omega)
      have enot : ¬ 128 ≤ mrk q s := by
        unfold mrk
        by_cases hum : s < 99 ∧ s ∈ q
        · rw [if_pos hum]
          omega
        · rw [if_neg hum]
          have h99 : ¬ s < 99 := fun z => by
            by_cases hin : s ∈ q
            · exact hum ⟨z, hin⟩
            · exact hv ⟨z, hin⟩
          unfold vc
          rw [if_neg h99]
          have := sgs.2.1
          split <;> omega
      rw [decide_eq_false enot, bZ_f] at X1
      obtain ⟨S', lv', a1, a2, a3, a4, a5, a6⟩ := ih q (p + 1) S w ((2, .int (iZ ((p : Int) + 1))) :: lv.filter (x_keep 2)) hd2.symm (by omega) (by omega) lS lS9 hq (fun v hvv h9 => by
        rw [tk1] at hvv
        rcases List.mem_append.mp hvv with z | z
        · exact hsn v z h9
        · rw [List.mem_singleton] at z
          subst z
          by_cases hin : v ∈ q
          · exact hin
          · exact absurd ⟨h9, hin⟩ hv) hS hf C2 (by rw [lk_s hc]; exact l0) (by rw [lk_s hc]; exact l1) (by rw [lk_s hc]; rfl)
      refine ⟨S', lv', a1, a2, a3, a4, a5, fun res hgg => Gx.run 60 X1 (fun K mm => ?_) (a6 res hgg)⟩
      obtain ⟨vv, hvv⟩ : ∃ vv : Int, vv = mrk q s := ⟨_, rfl⟩
      rw [← hvv] at mm hsp
      simp (disch := first | (refine c1_id ?_; assumption) | (refine c1_st rfl ?_; repeat (first | assumption | refine c1_st rfl ?_)) | omega) [nx_l, nx_r, nx_n, x_st, x_push, x_bin, x_div, x_un, x_dup, x_pop, x_dup2, x_goto, x_ifeq, x_ifne, x_iflt, x_ifge, x_ifgt, x_ifle, x_iceq, x_icne, x_iclt, x_icge, x_icgt, x_icle, x_ifnull, x_ifnonnull, x_ldi, x_lda, x_sti, x_sta, x_iinc, x_gf, x_pf, x_ald, x_ast, x_aln, x_len, x_cl_, x_cv, x_cs, x_rc, x_r0, x_isT, x_oi, x_rv, x_ri, x_ra, Value.category, t21_0, t21_1, t21_2, t21_3, t21_4, t21_5, t21_6, t21_9, t21_12, t21_13, t21_16, t21_17, t21_18, t21_21, t21_24, t21_27, t21_28, t21_29, t21_30, t21_33, t21_34, t21_35, t21_36, t21_37, t21_40, t21_43, t21_46, t21_47, t21_48, t21_49, t21_50, t21_53, t21_56, t21_57, t21_60, t21_61, t21_62, t21_65, t21_66, t21_69, t21_70, t21_71, t21_74, t21_75, t21_76, t21_77, t21_78, t21_79, t21_82, t21_83, t21_86, t21_89, t21_90, lk_s, hp_get, hp_set, uH_at, uH_ne, uH_upd, uH_swap, iZ_add, iZ_sub, iZ_mul, iZ_neg, iZ_lt, iZ_le, iZ_eq, iZ_div, iZ_of, ix_Z, gZ_map, gZ_mapI, gZ_map', le_0, le_s, sZ_map, sZ_len, bZ_0, bZ_inj, bZ_t, bZ_f, nr_i, nr_0, nr_1, nr_b, ft_i, ft_b, ft_0, ft_1, zl_0, zl_1, l0, l1, l2, fa, fs, hsp, b1, mm, -List.filter_filter, -List.getElem?_map, -List.getD_eq_getElem?_getD]
end NV
