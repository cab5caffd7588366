/-! the reference: a term is told, to its end -/

theorem clz_sum : ∀ K : List Nat, (clz K).1.length + (clz K).2.length ≤ K.length + 1
  | [] => by simp [clz]
  | n :: K => by
    have ih := clz_sum K
    unfold clz
    split
    · simp only [List.length_cons]
      omega
    · simp only [List.length_cons, List.length_nil]
      omega
theorem goT_len : ∀ (t : List Int) (K : List Nat), (goT t K).length ≤ 3 * t.length + K.length
  | [], K => by simp [goT]
  | s :: t, K => by
    unfold goT
    split
    · have := goT_len t (ar s :: K)
      simp only [List.length_cons] at this ⊢
      omega
    · have := goT_len t (clz K).2
      have h2 := clz_sum K
      simp only [List.length_cons, List.length_append]
      omega
section TU
variable {N : Nat} {S : List Int} {i : Int}
theorem lE.st {lv : xL} {to q o : Int} (h : lE lv to q o) {j : Nat} {v : Value} (hj : 4 < j) (hv : v.category = 1) : lE ((j, v) :: lv.filter (x_keep j)) to q o := by
  obtain ⟨h1, h2, h3, h4, h5⟩ := h
  refine ⟨c1_st hv h1, ?_, ?_, ?_, ?_⟩ <;> rw [lk_s h1, if_neg (by omega)] <;> assumption
set_option maxHeartbeats 1000000 in
theorem l138 (d : Nat) (hN : 53 ≤ N) (i0 : 0 ≤ i) (i9 : i < 2147483648) (s1 : S.length = 1320) (to : Int) (to9 : to ≤ 1320) : ∀ (t : List Int) (K : List Nat) (q : Int) (w : Nat → xC) (m : Nat → Int) (En L : List Int) (lv : xL), seg S q to = t → 0 ≤ q → q + t.length = to → (∀ s ∈ t, 0 ≤ s ∧ s < 204 ∧ (s < 99 → s < 26)) → w 27 = .inr (8, mF m) → w 28 = cI 0 S → w 50 = cI 0 En → En.length = 400 → stR En K → TLs m L i → L.length + 3 * t.length + K.length ≤ 800 → K.length + t.length ≤ 100 → lE lv to q K.length → ∃ (w' : Nat → xC) (m' : Nat → Int) (En' : List Int), Fr ksE w w' ∧ w' 27 = .inr (8, mF m') ∧ w' 50 = cI 0 En' ∧ En'.length = 400 ∧ mE m m' ∧ TLs m' (L ++ goT t K) i ∧ Gx q_k138 (d + 1) 5 (lv, [], hp w N) (none, hp w' N) := by
  intro t
  induction t with
  | nil =>
    intro K q w m En L lv hs q0 qe hr hm hS hE nE hst hL h8 h1 hl
    simp only [List.length_nil] at qe
    refine ⟨w, m, En, Fr.rf _ _, hm, hE, nE, fun _ _ _ => rfl, by show TLs m (L ++ []) i; rw [List.append_nil]; exact hL, Gx.fin 20 Cs.tt (fun C _ => ?_)⟩
    obtain ⟨hc, p0, p2, p3, p4⟩ := hl
    have b1 : to ≤ q := by omega
    simp (disch := first | (refine c1_id ?_; assumption) | (refine c1_st rfl ?_; repeat (first | assumption | refine c1_st rfl ?_)) | omega) [nx_l, nx_r, nx_n, x_st, x_push, x_bin, x_div, x_un, x_dup, x_pop, x_dup2, x_goto, x_ifeq, x_ifne, x_iflt, x_ifge, x_ifgt, x_ifle, x_iceq, x_icne, x_iclt, x_icge, x_icgt, x_icle, x_ifnull, x_ifnonnull, x_ldi, x_lda, x_sti, x_sta, x_iinc, x_gf, x_pf, x_ald, x_ast, x_aln, x_len, x_cl_, x_cv, x_cs, x_rc, x_r0, x_isT, x_oi, x_rv, x_ri, x_ra, Value.category, t138_0, t138_1, t138_2, t138_3, t138_5, t138_7, t138_8, t138_11, t138_12, t138_15, t138_17, t138_18, t138_20, t138_21, t138_23, t138_25, t138_28, t138_30, t138_32, t138_33, t138_36, t138_38, t138_40, t138_42, t138_43, t138_44, t138_45, t138_46, t138_49, t138_51, t138_54, t138_57, t138_58, t138_60, t138_63, t138_64, t138_67, t138_68, t138_70, t138_73, t138_74, t138_77, t138_80, t138_81, t138_84, t138_85, t138_88, t138_89, t138_91, t138_93, t138_96, t138_97, t138_100, t138_101, t138_102, t138_103, t138_104, t138_105, t138_106, t138_107, t138_108, t138_109, t138_112, t138_113, t138_114, t138_115, t138_116, t138_119, t138_120, t138_123, t138_124, t138_126, t138_128, t138_131, t138_132, t138_134, t138_137, t138_140, t138_141, t138_144, t138_145, t138_148, t138_149, t138_151, t138_154, t138_155, t138_157, t138_160, t138_163, t138_166, t138_169, lk_s, hp_get, hp_set, uH_at, uH_ne, uH_upd, uH_swap, iZ_add, iZ_sub, iZ_mul, iZ_neg, iZ_lt, iZ_le, iZ_eq, iZ_div, iZ_of, ix_Z, gZ_map, gZ_mapI, gZ_map', le_0, le_s, sZ_map, sZ_len, bZ_0, bZ_inj, bZ_t, bZ_f, nr_i, nr_0, nr_1, nr_b, ft_i, ft_b, ft_0, ft_1, zl_0, zl_1, zl_4, zl_40, zl_41, zl_44, zl_65, zl_97, zl_99, zl_100, mF_len, mg_0, mg_1, mg_2, mg_3, mg_4, mg_5, mg_6, mg_7, mg_8, mg_9, mg_10, mg_11, mg_12, mg_13, mg_14, mg_15, mg_16, mg_17, mg_18, mg_19, mg_20, mg_21, mg_22, mg_23, mg_24, mg_25, mg_26, mg_27, mg_28, mg_29, mg_30, mg_31, mg_32, mg_33, mg_34, mg_35, mg_36, mg_37, mg_38, ms_0, ms_1, ms_2, ms_13, ms_14, ms_15, ms_16, ms_21, ms_22, ms_23, ms_24, ms_28, ms_36, ms_37, ms_38, st_at, st_ne, st_st, st_swap, p0, p2, p4, b1, -List.filter_filter, -List.getElem?_map, -List.getD_eq_getElem?_getD]
  | cons s t ih =>
    intro K q w m En L lv hs q0 qe hr hm hS hE nE hst hL h8 h1 hl
    simp only [List.length_cons] at qe h8 h1
    have hsc := seg_cons q0 (show q < to by omega) (by omega : q < S.length)
    rw [hs] at hsc
    injection hsc with hs1 hs2
    have hgs : gZ S q = s := hs1.symm
    have hs' : seg S (q + 1) to = t := hs2.symm
    have rs := hr s List.mem_cons_self
    have rs0 := rs.1
    have rs1 := rs.2.1
    have b1 : ¬ to ≤ q := by omega
    obtain ⟨m1, t1, t2, X1⟩ := m137 (w := w) d hN hm hL i0 i9 (by omega) (ch1 s)
    obtain ⟨w1, hw1⟩ : ∃ w1, w1 = uH w 27 (.inr (8, mF m1)) := ⟨_, rfl⟩
    rw [← hw1] at X1
    have hm1 : w1 27 = .inr (8, mF m1) := by rw [hw1, uH_at]
    have hS1 : w1 28 = cI 0 S := by rw [hw1, uH_ne (by decide)]; exact hS
    have hE1 : w1 50 = cI 0 En := by rw [hw1, uH_ne (by decide)]; exact hE
    have F1 : Fr ksE w w1 := by rw [hw1]; exact (Fr.rf _ _).up (by decide)
    have L5 := hl.st (j := 5) (v := .int (iZ s)) (by decide) rfl
    have e5 : x_lk ((5, .int (iZ s)) :: lv.filter (x_keep 5)) 5 = some (.int (iZ s)) := by rw [lk_s hl.1]; rfl
    have g5 : ∀ res, Gx q_k138 (d + 1) 49 ((5, .int (iZ s)) :: lv.filter (x_keep 5), [], hp w1 N) res → Gx q_k138 (d + 1) 5 (lv, [], hp w N) res := fun res hg => by
      obtain ⟨hc, p0, p2, p3, p4⟩ := hl
      refine Gx.run 60 X1 (fun C mm => ?_) hg
      by_cases h9 : s < 99
      · have e : ch1 s = 65 + s := if_pos h9
        rw [e] at mm
        have b2 : ¬ 99 ≤ s := by omega
        simp (disch := first | (refine c1_id ?_; assumption) | (refine c1_st rfl ?_; repeat (first | assumption | refine c1_st rfl ?_)) | omega) [nx_l, nx_r, nx_n, x_st, x_push, x_bin, x_div, x_un, x_dup, x_pop, x_dup2, x_goto, x_ifeq, x_ifne, x_iflt, x_ifge, x_ifgt, x_ifle, x_iceq, x_icne, x_iclt, x_icge, x_icgt, x_icle, x_ifnull, x_ifnonnull, x_ldi, x_lda, x_sti, x_sta, x_iinc, x_gf, x_pf, x_ald, x_ast, x_aln, x_len, x_cl_, x_cv, x_cs, x_rc, x_r0, x_isT, x_oi, x_rv, x_ri, x_ra, Value.category, t138_0, t138_1, t138_2, t138_3, t138_5, t138_7, t138_8, t138_11, t138_12, t138_15, t138_17, t138_18, t138_20, t138_21, t138_23, t138_25, t138_28, t138_30, t138_32, t138_33, t138_36, t138_38, t138_40, t138_42, t138_43, t138_44, t138_45, t138_46, t138_49, t138_51, t138_54, t138_57, t138_58, t138_60, t138_63, t138_64, t138_67, t138_68, t138_70, t138_73, t138_74, t138_77, t138_80, t138_81, t138_84, t138_85, t138_88, t138_89, t138_91, t138_93, t138_96, t138_97, t138_100, t138_101, t138_102, t138_103, t138_104, t138_105, t138_106, t138_107, t138_108, t138_109, t138_112, t138_113, t138_114, t138_115, t138_116, t138_119, t138_120, t138_123, t138_124, t138_126, t138_128, t138_131, t138_132, t138_134, t138_137, t138_140, t138_141, t138_144, t138_145, t138_148, t138_149, t138_151, t138_154, t138_155, t138_157, t138_160, t138_163, t138_166, t138_169, lk_s, hp_get, hp_set, uH_at, uH_ne, uH_upd, uH_swap, iZ_add, iZ_sub, iZ_mul, iZ_neg, iZ_lt, iZ_le, iZ_eq, iZ_div, iZ_of, ix_Z, gZ_map, gZ_mapI, gZ_map', le_0, le_s, sZ_map, sZ_len, bZ_0, bZ_inj, bZ_t, bZ_f, nr_i, nr_0, nr_1, nr_b, ft_i, ft_b, ft_0, ft_1, zl_0, zl_1, zl_4, zl_40, zl_41, zl_44, zl_65, zl_97, zl_99, zl_100, mF_len, mg_0, mg_1, mg_2, mg_3, mg_4, mg_5, mg_6, mg_7, mg_8, mg_9, mg_10, mg_11, mg_12, mg_13, mg_14, mg_15, mg_16, mg_17, mg_18, mg_19, mg_20, mg_21, mg_22, mg_23, mg_24, mg_25, mg_26, mg_27, mg_28, mg_29, mg_30, mg_31, mg_32, mg_33, mg_34, mg_35, mg_36, mg_37, mg_38, ms_0, ms_1, ms_2, ms_13, ms_14, ms_15, ms_16, ms_21, ms_22, ms_23, ms_24, ms_28, ms_36, ms_37, ms_38, st_at, st_ne, st_st, st_swap, p0, p2, p4, hm, hS, hgs, b1, b2, mm, -List.filter_filter, -List.getElem?_map, -List.getD_eq_getElem?_getD]
      · have b2 : 99 ≤ s := by omega
        by_cases h99 : s = 99
        · subst h99
          have e : ch1 99 = 97 := rfl
          rw [e] at mm
          have dv : iZ (-1) / iZ 4 = iZ 0 := by decide
          simp (disch := first | (refine c1_id ?_; assumption) | (refine c1_st rfl ?_; repeat (first | assumption | refine c1_st rfl ?_)) | omega) [nx_l, nx_r, nx_n, x_st, x_push, x_bin, x_div, x_un, x_dup, x_pop, x_dup2, x_goto, x_ifeq, x_ifne, x_iflt, x_ifge, x_ifgt, x_ifle, x_iceq, x_icne, x_iclt, x_icge, x_icgt, x_icle, x_ifnull, x_ifnonnull, x_ldi, x_lda, x_sti, x_sta, x_iinc, x_gf, x_pf, x_ald, x_ast, x_aln, x_len, x_cl_, x_cv, x_cs, x_rc, x_r0, x_isT, x_oi, x_rv, x_ri, x_ra, Value.category, t138_0, t138_1, t138_2, t138_3, t138_5, t138_7, t138_8, t138_11, t138_12, t138_15, t138_17, t138_18, t138_20, t138_21, t138_23, t138_25, t138_28, t138_30, t138_32, t138_33, t138_36, t138_38, t138_40, t138_42, t138_43, t138_44, t138_45, t138_46, t138_49, t138_51, t138_54, t138_57, t138_58, t138_60, t138_63, t138_64, t138_67, t138_68, t138_70, t138_73, t138_74, t138_77, t138_80, t138_81, t138_84, t138_85, t138_88, t138_89, t138_91, t138_93, t138_96, t138_97, t138_100, t138_101, t138_102, t138_103, t138_104, t138_105, t138_106, t138_107, t138_108, t138_109, t138_112, t138_113, t138_114, t138_115, t138_116, t138_119, t138_120, t138_123, t138_124, t138_126, t138_128, t138_131, t138_132, t138_134, t138_137, t138_140, t138_141, t138_144, t138_145, t138_148, t138_149, t138_151, t138_154, t138_155, t138_157, t138_160, t138_163, t138_166, t138_169, lk_s, hp_get, hp_set, uH_at, uH_ne, uH_upd, uH_swap, iZ_add, iZ_sub, iZ_mul, iZ_neg, iZ_lt, iZ_le, iZ_eq, iZ_div, iZ_of, ix_Z, gZ_map, gZ_mapI, gZ_map', le_0, le_s, sZ_map, sZ_len, bZ_0, bZ_inj, bZ_t, bZ_f, nr_i, nr_0, nr_1, nr_b, ft_i, ft_b, ft_0, ft_1, zl_0, zl_1, zl_4, zl_40, zl_41, zl_44, zl_65, zl_97, zl_99, zl_100, mF_len, mg_0, mg_1, mg_2, mg_3, mg_4, mg_5, mg_6, mg_7, mg_8, mg_9, mg_10, mg_11, mg_12, mg_13, mg_14, mg_15, mg_16, mg_17, mg_18, mg_19, mg_20, mg_21, mg_22, mg_23, mg_24, mg_25, mg_26, mg_27, mg_28, mg_29, mg_30, mg_31, mg_32, mg_33, mg_34, mg_35, mg_36, mg_37, mg_38, ms_0, ms_1, ms_2, ms_13, ms_14, ms_15, ms_16, ms_21, ms_22, ms_23, ms_24, ms_28, ms_36, ms_37, ms_38, st_at, st_ne, st_st, st_swap, p0, p2, p4, hm, hS, hgs, b1, dv, mm, -List.filter_filter, -List.getElem?_map, -List.getD_eq_getElem?_getD]
        · have e : ch1 s = 97 + (s - 100) / 4 := by
            unfold ch1
            rw [if_neg h9, if_neg h99]
          rw [e] at mm
          simp (disch := first | (refine c1_id ?_; assumption) | (refine c1_st rfl ?_; repeat (first | assumption | refine c1_st rfl ?_)) | omega) [nx_l, nx_r, nx_n, x_st, x_push, x_bin, x_div, x_un, x_dup, x_pop, x_dup2, x_goto, x_ifeq, x_ifne, x_iflt, x_ifge, x_ifgt, x_ifle, x_iceq, x_icne, x_iclt, x_icge, x_icgt, x_icle, x_ifnull, x_ifnonnull, x_ldi, x_lda, x_sti, x_sta, x_iinc, x_gf, x_pf, x_ald, x_ast, x_aln, x_len, x_cl_, x_cv, x_cs, x_rc, x_r0, x_isT, x_oi, x_rv, x_ri, x_ra, Value.category, t138_0, t138_1, t138_2, t138_3, t138_5, t138_7, t138_8, t138_11, t138_12, t138_15, t138_17, t138_18, t138_20, t138_21, t138_23, t138_25, t138_28, t138_30, t138_32, t138_33, t138_36, t138_38, t138_40, t138_42, t138_43, t138_44, t138_45, t138_46, t138_49, t138_51, t138_54, t138_57, t138_58, t138_60, t138_63, t138_64, t138_67, t138_68, t138_70, t138_73, t138_74, t138_77, t138_80, t138_81, t138_84, t138_85, t138_88, t138_89, t138_91, t138_93, t138_96, t138_97, t138_100, t138_101, t138_102, t138_103, t138_104, t138_105, t138_106, t138_107, t138_108, t138_109, t138_112, t138_113, t138_114, t138_115, t138_116, t138_119, t138_120, t138_123, t138_124, t138_126, t138_128, t138_131, t138_132, t138_134, t138_137, t138_140, t138_141, t138_144, t138_145, t138_148, t138_149, t138_151, t138_154, t138_155, t138_157, t138_160, t138_163, t138_166, t138_169, lk_s, hp_get, hp_set, uH_at, uH_ne, uH_upd, uH_swap, iZ_add, iZ_sub, iZ_mul, iZ_neg, iZ_lt, iZ_le, iZ_eq, iZ_div, iZ_of, ix_Z, gZ_map, gZ_mapI, gZ_map', le_0, le_s, sZ_map, sZ_len, bZ_0, bZ_inj, bZ_t, bZ_f, nr_i, nr_0, nr_1, nr_b, ft_i, ft_b, ft_0, ft_1, zl_0, zl_1, zl_4, zl_40, zl_41, zl_44, zl_65, zl_97, zl_99, zl_100, mF_len, mg_0, mg_1, mg_2, mg_3, mg_4, mg_5, mg_6, mg_7, mg_8, mg_9, mg_10, mg_11, mg_12, mg_13, mg_14, mg_15, mg_16, mg_17, mg_18, mg_19, mg_20, mg_21, mg_22, mg_23, mg_24, mg_25, mg_26, mg_27, mg_28, mg_29, mg_30, mg_31, mg_32, mg_33, mg_34, mg_35, mg_36, mg_37, mg_38, ms_0, ms_1, ms_2, ms_13, ms_14, ms_15, ms_16, ms_21, ms_22, ms_23, ms_24, ms_28, ms_36, ms_37, ms_38, st_at, st_ne, st_st, st_swap, p0, p2, p4, hm, hS, hgs, b1, b2, mm, -List.filter_filter, -List.getElem?_map, -List.getD_eq_getElem?_getD]
    have ha := ar_le s
    have X2 := m101 d w1 N s (by omega) (by omega)
    generalize ((5, .int (iZ s)) :: lv.filter (x_keep 5) : xL) = lv5 at L5 e5 g5
    have L5' := L5
    obtain ⟨hc5, p0, p2, p3, p4⟩ := L5'
    have kr : (K.length : Int) ≤ 100 := by omega
    have kr0 : (0 : Int) ≤ K.length := by omega
    by_cases har : 0 < ar s
    · have eg : goT (s :: t) K = ch1 s :: 40 :: goT t (ar s :: K) := by
        show ch1 s :: (if 0 < ar s then _ else _) = _
        rw [if_pos har]
      rw [eg]
      obtain ⟨m2, u1, u2, X3⟩ := m137 (w := w1) d hN hm1 t1 i0 i9 (by simp; omega) 40
      obtain ⟨w2, hw2⟩ : ∃ w2, w2 = uH w1 27 (.inr (8, mF m2)) := ⟨_, rfl⟩
      rw [← hw2] at X3
      have hm2 : w2 27 = .inr (8, mF m2) := by rw [hw2, uH_at]
      have hS2 : w2 28 = cI 0 S := by rw [hw2, uH_ne (by decide)]; exact hS1
      have hE2 : w2 50 = cI 0 En := by rw [hw2, uH_ne (by decide)]; exact hE1
      have F2 : Fr ksE w w2 := by rw [hw2]; exact F1.up (by decide)
      have X4 := m101 d w2 N s (by omega) (by omega)
      obtain ⟨w3, hw3⟩ : ∃ w3, w3 = uH w2 50 (cI 0 (sZ En K.length (ar s))) := ⟨_, rfl⟩
      have hm3 : w3 27 = .inr (8, mF m2) := by rw [hw3, uH_ne (by decide)]; exact hm2
      have hS3 : w3 28 = cI 0 S := by rw [hw3, uH_ne (by decide)]; exact hS2
      have hE3 : w3 50 = cI 0 (sZ En K.length (ar s)) := by rw [hw3, uH_at]
      have F3 : Fr ksE w w3 := by rw [hw3]; exact F2.up (by decide)
      have C3 := c1_st (i := 3) (v := .int (iZ ((K.length : Int) + 1))) rfl hc5
      have C4 := c1_st (i := 4) (v := .int (iZ (q + 1))) rfl C3
      obtain ⟨w', m', En', a1, a2, a3, a4, a5, a6, a7⟩ := ih (ar s :: K) (q + 1) w3 m2 _ (L ++ [ch1 s] ++ [40]) ((4, .int (iZ (q + 1))) :: List.filter (x_keep 4) ((3, .int (iZ ((K.length : Int) + 1))) :: lv5.filter (x_keep 3))) hs' (by omega) (by omega) (fun z hz => hr z (List.mem_cons_of_mem _ hz)) hm3 hS3 hE3 (by rw [sZ_len]; exact nE) ⟨by rw [gZ_sZ (by omega) (by omega) (by omega), if_pos rfl], har, ha, hst.keep (fun j hj => by rw [gZ_sZ (by omega) (by omega) (by omega), if_neg (by omega)])⟩ u1 (by simp only [List.length_append, List.length_cons, List.length_nil]; omega) (by simp only [List.length_cons]; omega) ⟨C4, by rw [lk_s C3, lk_s hc5]; exact p0, by rw [lk_s C3, lk_s hc5]; exact p2, by rw [lk_s C3, lk_s hc5]; rfl, by rw [lk_s C3]; rfl⟩
      refine ⟨w', m', En', F3.tr a1, a2, a3, a4, mE.tr (mE.tr t2 u2) a5, by rw [List.append_assoc, List.append_assoc] at a6; exact a6, g5 _ ?_⟩
      have g63 : Gx q_k138 (d + 1) 63 (lv5, [], hp w2 N) (none, hp w' N) := by
        refine Gx.run 40 X4 (fun C mm => ?_) a7
        rw [hw3]
        simp (disch := first | (refine c1_id ?_; assumption) | (refine c1_st rfl ?_; repeat (first | assumption | refine c1_st rfl ?_)) | omega) [nx_l, nx_r, nx_n, x_st, x_push, x_bin, x_div, x_un, x_dup, x_pop, x_dup2, x_goto, x_ifeq, x_ifne, x_iflt, x_ifge, x_ifgt, x_ifle, x_iceq, x_icne, x_iclt, x_icge, x_icgt, x_icle, x_ifnull, x_ifnonnull, x_ldi, x_lda, x_sti, x_sta, x_iinc, x_gf, x_pf, x_ald, x_ast, x_aln, x_len, x_cl_, x_cv, x_cs, x_rc, x_r0, x_isT, x_oi, x_rv, x_ri, x_ra, Value.category, t138_0, t138_1, t138_2, t138_3, t138_5, t138_7, t138_8, t138_11, t138_12, t138_15, t138_17, t138_18, t138_20, t138_21, t138_23, t138_25, t138_28, t138_30, t138_32, t138_33, t138_36, t138_38, t138_40, t138_42, t138_43, t138_44, t138_45, t138_46, t138_49, t138_51, t138_54, t138_57, t138_58, t138_60, t138_63, t138_64, t138_67, t138_68, t138_70, t138_73, t138_74, t138_77, t138_80, t138_81, t138_84, t138_85, t138_88, t138_89, t138_91, t138_93, t138_96, t138_97, t138_100, t138_101, t138_102, t138_103, t138_104, t138_105, t138_106, t138_107, t138_108, t138_109, t138_112, t138_113, t138_114, t138_115, t138_116, t138_119, t138_120, t138_123, t138_124, t138_126, t138_128, t138_131, t138_132, t138_134, t138_137, t138_140, t138_141, t138_144, t138_145, t138_148, t138_149, t138_151, t138_154, t138_155, t138_157, t138_160, t138_163, t138_166, t138_169, lk_s, hp_get, hp_set, uH_at, uH_ne, uH_upd, uH_swap, iZ_add, iZ_sub, iZ_mul, iZ_neg, iZ_lt, iZ_le, iZ_eq, iZ_div, iZ_of, ix_Z, gZ_map, gZ_mapI, gZ_map', le_0, le_s, sZ_map, sZ_len, bZ_0, bZ_inj, bZ_t, bZ_f, nr_i, nr_0, nr_1, nr_b, ft_i, ft_b, ft_0, ft_1, zl_0, zl_1, zl_4, zl_40, zl_41, zl_44, zl_65, zl_97, zl_99, zl_100, mF_len, mg_0, mg_1, mg_2, mg_3, mg_4, mg_5, mg_6, mg_7, mg_8, mg_9, mg_10, mg_11, mg_12, mg_13, mg_14, mg_15, mg_16, mg_17, mg_18, mg_19, mg_20, mg_21, mg_22, mg_23, mg_24, mg_25, mg_26, mg_27, mg_28, mg_29, mg_30, mg_31, mg_32, mg_33, mg_34, mg_35, mg_36, mg_37, mg_38, ms_0, ms_1, ms_2, ms_13, ms_14, ms_15, ms_16, ms_21, ms_22, ms_23, ms_24, ms_28, ms_36, ms_37, ms_38, st_at, st_ne, st_st, st_swap, p0, p2, p3, p4, e5, hm2, hE2, mm, -List.filter_filter, -List.getElem?_map, -List.getD_eq_getElem?_getD]
      refine Gx.run 40 (X2.and X3) (fun C mm => ?_) g63
      obtain ⟨mm1, mm2⟩ := mm
      obtain ⟨a, hae⟩ : ∃ a : Int, a = (ar s : Int) := ⟨_, rfl⟩
      rw [← hae] at mm1
      have b3 : ¬ a ≤ 0 := by omega
      have b4 : a ≤ 3 := by omega
      simp (disch := first | (refine c1_id ?_; assumption) | (refine c1_st rfl ?_; repeat (first | assumption | refine c1_st rfl ?_)) | omega) [nx_l, nx_r, nx_n, x_st, x_push, x_bin, x_div, x_un, x_dup, x_pop, x_dup2, x_goto, x_ifeq, x_ifne, x_iflt, x_ifge, x_ifgt, x_ifle, x_iceq, x_icne, x_iclt, x_icge, x_icgt, x_icle, x_ifnull, x_ifnonnull, x_ldi, x_lda, x_sti, x_sta, x_iinc, x_gf, x_pf, x_ald, x_ast, x_aln, x_len, x_cl_, x_cv, x_cs, x_rc, x_r0, x_isT, x_oi, x_rv, x_ri, x_ra, Value.category, t138_0, t138_1, t138_2, t138_3, t138_5, t138_7, t138_8, t138_11, t138_12, t138_15, t138_17, t138_18, t138_20, t138_21, t138_23, t138_25, t138_28, t138_30, t138_32, t138_33, t138_36, t138_38, t138_40, t138_42, t138_43, t138_44, t138_45, t138_46, t138_49, t138_51, t138_54, t138_57, t138_58, t138_60, t138_63, t138_64, t138_67, t138_68, t138_70, t138_73, t138_74, t138_77, t138_80, t138_81, t138_84, t138_85, t138_88, t138_89, t138_91, t138_93, t138_96, t138_97, t138_100, t138_101, t138_102, t138_103, t138_104, t138_105, t138_106, t138_107, t138_108, t138_109, t138_112, t138_113, t138_114, t138_115, t138_116, t138_119, t138_120, t138_123, t138_124, t138_126, t138_128, t138_131, t138_132, t138_134, t138_137, t138_140, t138_141, t138_144, t138_145, t138_148, t138_149, t138_151, t138_154, t138_155, t138_157, t138_160, t138_163, t138_166, t138_169, lk_s, hp_get, hp_set, uH_at, uH_ne, uH_upd, uH_swap, iZ_add, iZ_sub, iZ_mul, iZ_neg, iZ_lt, iZ_le, iZ_eq, iZ_div, iZ_of, ix_Z, gZ_map, gZ_mapI, gZ_map', le_0, le_s, sZ_map, sZ_len, bZ_0, bZ_inj, bZ_t, bZ_f, nr_i, nr_0, nr_1, nr_b, ft_i, ft_b, ft_0, ft_1, zl_0, zl_1, zl_4, zl_40, zl_41, zl_44, zl_65, zl_97, zl_99, zl_100, mF_len, mg_0, mg_1, mg_2, mg_3, mg_4, mg_5, mg_6, mg_7, mg_8, mg_9, mg_10, mg_11, mg_12, mg_13, mg_14, mg_15, mg_16, mg_17, mg_18, mg_19, mg_20, mg_21, mg_22, mg_23, mg_24, mg_25, mg_26, mg_27, mg_28, mg_29, mg_30, mg_31, mg_32, mg_33, mg_34, mg_35, mg_36, mg_37, mg_38, ms_0, ms_1, ms_2, ms_13, ms_14, ms_15, ms_16, ms_21, ms_22, ms_23, ms_24, ms_28, ms_36, ms_37, ms_38, st_at, st_ne, st_st, st_swap, p0, e5, hm1, mm1, mm2, b3, -List.filter_filter, -List.getElem?_map, -List.getD_eq_getElem?_getD]
    · have ar0 : ar s = 0 := by omega
      have eg : goT (s :: t) K = ch1 s :: ((clz K).1 ++ goT t (clz K).2) := by
        show ch1 s :: (if 0 < ar s then _ else _) = _
        rw [if_neg har]
      rw [eg]
      have L6 := L5.st (j := 6) (v := .int (iZ (bZ (decide (0 < K.length))))) (by decide) rfl
      obtain ⟨w2, m2, En2, lv2, c1_, c2, c3, c4, c5, c6, c7, c8, c9⟩ := l138c d hN i0 i9 to q K w1 m1 En (L ++ [ch1 s]) ((6, .int (iZ (bZ (decide (0 < K.length))))) :: lv5.filter (x_keep 6)) hm1 hE1 nE hst t1 (by simp; omega) (by omega) L6 (by rw [lk_s hc5]; rfl)
      have cs := clz_sum K
      have cl := clz_len K
      obtain ⟨hc2, q0', q2', q3', q4'⟩ := c8
      have C4 := c1_st (i := 4) (v := .int (iZ (q + 1))) rfl hc2
      obtain ⟨w', m', En', a1, a2, a3, a4, a5, a6, a7⟩ := ih (clz K).2 (q + 1) w2 m2 En2 (L ++ [ch1 s] ++ (clz K).1) ((4, .int (iZ (q + 1))) :: lv2.filter (x_keep 4)) hs' (by omega) (by omega) (fun z hz => hr z (List.mem_cons_of_mem _ hz)) c2 ((c1_ 28 (by decide)).trans hS1) c3 c4 c6 c7 (by simp only [List.length_append, List.length_cons, List.length_nil]; omega) (by omega) ⟨C4, by rw [lk_s hc2]; exact q0', by rw [lk_s hc2]; exact q2', by rw [lk_s hc2]; exact q3', by rw [lk_s hc2]; rfl⟩
      refine ⟨w', m', En', (F1.tr c1_).tr a1, a2, a3, a4, mE.tr (mE.tr t2 c5) a5, by rw [List.append_assoc, List.append_assoc] at a6; exact a6, g5 _ ?_⟩
      rw [ar0] at X2
      have X2' : Xc (d + 1) 101 [.int (iZ s)] (hp w1 N) (some (.int (iZ 0)), hp w1 N) := X2
      refine Gx.run 40 X2' (fun C mm => ?_) (c9 _ (Gx.run 20 Cs.tt (fun C _ => ?_) a7))
      · by_cases hk0 : 0 < K.length
        · have b3 : ¬ (K.length : Int) ≤ 0 := by omega
          rw [decide_eq_true hk0]
          obtain ⟨kk, hkk⟩ : ∃ kk : Int, kk = (K.length : Int) := ⟨_, rfl⟩
          rw [← hkk] at p3 b3 kr kr0
          simp (disch := first | (refine c1_id ?_; assumption) | (refine c1_st rfl ?_; repeat (first | assumption | refine c1_st rfl ?_)) | omega) [nx_l, nx_r, nx_n, x_st, x_push, x_bin, x_div, x_un, x_dup, x_pop, x_dup2, x_goto, x_ifeq, x_ifne, x_iflt, x_ifge, x_ifgt, x_ifle, x_iceq, x_icne, x_iclt, x_icge, x_icgt, x_icle, x_ifnull, x_ifnonnull, x_ldi, x_lda, x_sti, x_sta, x_iinc, x_gf, x_pf, x_ald, x_ast, x_aln, x_len, x_cl_, x_cv, x_cs, x_rc, x_r0, x_isT, x_oi, x_rv, x_ri, x_ra, Value.category, t138_0, t138_1, t138_2, t138_3, t138_5, t138_7, t138_8, t138_11, t138_12, t138_15, t138_17, t138_18, t138_20, t138_21, t138_23, t138_25, t138_28, t138_30, t138_32, t138_33, t138_36, t138_38, t138_40, t138_42, t138_43, t138_44, t138_45, t138_46, t138_49, t138_51, t138_54, t138_57, t138_58, t138_60, t138_63, t138_64, t138_67, t138_68, t138_70, t138_73, t138_74, t138_77, t138_80, t138_81, t138_84, t138_85, t138_88, t138_89, t138_91, t138_93, t138_96, t138_97, t138_100, t138_101, t138_102, t138_103, t138_104, t138_105, t138_106, t138_107, t138_108, t138_109, t138_112, t138_113, t138_114, t138_115, t138_116, t138_119, t138_120, t138_123, t138_124, t138_126, t138_128, t138_131, t138_132, t138_134, t138_137, t138_140, t138_141, t138_144, t138_145, t138_148, t138_149, t138_151, t138_154, t138_155, t138_157, t138_160, t138_163, t138_166, t138_169, lk_s, hp_get, hp_set, uH_at, uH_ne, uH_upd, uH_swap, iZ_add, iZ_sub, iZ_mul, iZ_neg, iZ_lt, iZ_le, iZ_eq, iZ_div, iZ_of, ix_Z, gZ_map, gZ_mapI, gZ_map', le_0, le_s, sZ_map, sZ_len, bZ_0, bZ_inj, bZ_t, bZ_f, nr_i, nr_0, nr_1, nr_b, ft_i, ft_b, ft_0, ft_1, zl_0, zl_1, zl_4, zl_40, zl_41, zl_44, zl_65, zl_97, zl_99, zl_100, mF_len, mg_0, mg_1, mg_2, mg_3, mg_4, mg_5, mg_6, mg_7, mg_8, mg_9, mg_10, mg_11, mg_12, mg_13, mg_14, mg_15, mg_16, mg_17, mg_18, mg_19, mg_20, mg_21, mg_22, mg_23, mg_24, mg_25, mg_26, mg_27, mg_28, mg_29, mg_30, mg_31, mg_32, mg_33, mg_34, mg_35, mg_36, mg_37, mg_38, ms_0, ms_1, ms_2, ms_13, ms_14, ms_15, ms_16, ms_21, ms_22, ms_23, ms_24, ms_28, ms_36, ms_37, ms_38, st_at, st_ne, st_st, st_swap, p0, p3, e5, hm1, mm, b3, -List.filter_filter, -List.getElem?_map, -List.getD_eq_getElem?_getD]
        · have b3 : (K.length : Int) ≤ 0 := by omega
          rw [decide_eq_false hk0]
          obtain ⟨kk, hkk⟩ : ∃ kk : Int, kk = (K.length : Int) := ⟨_, rfl⟩
          rw [← hkk] at p3 b3 kr kr0
          simp (disch := first | (refine c1_id ?_; assumption) | (refine c1_st rfl ?_; repeat (first | assumption | refine c1_st rfl ?_)) | omega) [nx_l, nx_r, nx_n, x_st, x_push, x_bin, x_div, x_un, x_dup, x_pop, x_dup2, x_goto, x_ifeq, x_ifne, x_iflt, x_ifge, x_ifgt, x_ifle, x_iceq, x_icne, x_iclt, x_icge, x_icgt, x_icle, x_ifnull, x_ifnonnull, x_ldi, x_lda, x_sti, x_sta, x_iinc, x_gf, x_pf, x_ald, x_ast, x_aln, x_len, x_cl_, x_cv, x_cs, x_rc, x_r0, x_isT, x_oi, x_rv, x_ri, x_ra, Value.category, t138_0, t138_1, t138_2, t138_3, t138_5, t138_7, t138_8, t138_11, t138_12, t138_15, t138_17, t138_18, t138_20, t138_21, t138_23, t138_25, t138_28, t138_30, t138_32, t138_33, t138_36, t138_38, t138_40, t138_42, t138_43, t138_44, t138_45, t138_46, t138_49, t138_51, t138_54, t138_57, t138_58, t138_60, t138_63, t138_64, t138_67, t138_68, t138_70, t138_73, t138_74, t138_77, t138_80, t138_81, t138_84, t138_85, t138_88, t138_89, t138_91, t138_93, t138_96, t138_97, t138_100, t138_101, t138_102, t138_103, t138_104, t138_105, t138_106, t138_107, t138_108, t138_109, t138_112, t138_113, t138_114, t138_115, t138_116, t138_119, t138_120, t138_123, t138_124, t138_126, t138_128, t138_131, t138_132, t138_134, t138_137, t138_140, t138_141, t138_144, t138_145, t138_148, t138_149, t138_151, t138_154, t138_155, t138_157, t138_160, t138_163, t138_166, t138_169, lk_s, hp_get, hp_set, uH_at, uH_ne, uH_upd, uH_swap, iZ_add, iZ_sub, iZ_mul, iZ_neg, iZ_lt, iZ_le, iZ_eq, iZ_div, iZ_of, ix_Z, gZ_map, gZ_mapI, gZ_map', le_0, le_s, sZ_map, sZ_len, bZ_0, bZ_inj, bZ_t, bZ_f, nr_i, nr_0, nr_1, nr_b, ft_i, ft_b, ft_0, ft_1, zl_0, zl_1, zl_4, zl_40, zl_41, zl_44, zl_65, zl_97, zl_99, zl_100, mF_len, mg_0, mg_1, mg_2, mg_3, mg_4, mg_5, mg_6, mg_7, mg_8, mg_9, mg_10, mg_11, mg_12, mg_13, mg_14, mg_15, mg_16, mg_17, mg_18, mg_19, mg_20, mg_21, mg_22, mg_23, mg_24, mg_25, mg_26, mg_27, mg_28, mg_29, mg_30, mg_31, mg_32, mg_33, mg_34, mg_35, mg_36, mg_37, mg_38, ms_0, ms_1, ms_2, ms_13, ms_14, ms_15, ms_16, ms_21, ms_22, ms_23, ms_24, ms_28, ms_36, ms_37, ms_38, st_at, st_ne, st_st, st_swap, p0, p3, e5, hm1, mm, b3, -List.filter_filter, -List.getElem?_map, -List.getD_eq_getElem?_getD]
      · simp (disch := first | (refine c1_id ?_; assumption) | (refine c1_st rfl ?_; repeat (first | assumption | refine c1_st rfl ?_)) | omega) [nx_l, nx_r, nx_n, x_st, x_push, x_bin, x_div, x_un, x_dup, x_pop, x_dup2, x_goto, x_ifeq, x_ifne, x_iflt, x_ifge, x_ifgt, x_ifle, x_iceq, x_icne, x_iclt, x_icge, x_icgt, x_icle, x_ifnull, x_ifnonnull, x_ldi, x_lda, x_sti, x_sta, x_iinc, x_gf, x_pf, x_ald, x_ast, x_aln, x_len, x_cl_, x_cv, x_cs, x_rc, x_r0, x_isT, x_oi, x_rv, x_ri, x_ra, Value.category, t138_0, t138_1, t138_2, t138_3, t138_5, t138_7, t138_8, t138_11, t138_12, t138_15, t138_17, t138_18, t138_20, t138_21, t138_23, t138_25, t138_28, t138_30, t138_32, t138_33, t138_36, t138_38, t138_40, t138_42, t138_43, t138_44, t138_45, t138_46, t138_49, t138_51, t138_54, t138_57, t138_58, t138_60, t138_63, t138_64, t138_67, t138_68, t138_70, t138_73, t138_74, t138_77, t138_80, t138_81, t138_84, t138_85, t138_88, t138_89, t138_91, t138_93, t138_96, t138_97, t138_100, t138_101, t138_102, t138_103, t138_104, t138_105, t138_106, t138_107, t138_108, t138_109, t138_112, t138_113, t138_114, t138_115, t138_116, t138_119, t138_120, t138_123, t138_124, t138_126, t138_128, t138_131, t138_132, t138_134, t138_137, t138_140, t138_141, t138_144, t138_145, t138_148, t138_149, t138_151, t138_154, t138_155, t138_157, t138_160, t138_163, t138_166, t138_169, lk_s, hp_get, hp_set, uH_at, uH_ne, uH_upd, uH_swap, iZ_add, iZ_sub, iZ_mul, iZ_neg, iZ_lt, iZ_le, iZ_eq, iZ_div, iZ_of, ix_Z, gZ_map, gZ_mapI, gZ_map', le_0, le_s, sZ_map, sZ_len, bZ_0, bZ_inj, bZ_t, bZ_f, nr_i, nr_0, nr_1, nr_b, ft_i, ft_b, ft_0, ft_1, zl_0, zl_1, zl_4, zl_40, zl_41, zl_44, zl_65, zl_97, zl_99, zl_100, mF_len, mg_0, mg_1, mg_2, mg_3, mg_4, mg_5, mg_6, mg_7, mg_8, mg_9, mg_10, mg_11, mg_12, mg_13, mg_14, mg_15, mg_16, mg_17, mg_18, mg_19, mg_20, mg_21, mg_22, mg_23, mg_24, mg_25, mg_26, mg_27, mg_28, mg_29, mg_30, mg_31, mg_32, mg_33, mg_34, mg_35, mg_36, mg_37, mg_38, ms_0, ms_1, ms_2, ms_13, ms_14, ms_15, ms_16, ms_21, ms_22, ms_23, ms_24, ms_28, ms_36, ms_37, ms_38, st_at, st_ne, st_st, st_swap, q4', -List.filter_filter, -List.getElem?_map, -List.getD_eq_getElem?_getD]
theorem m138 (d : Nat) (hN : 53 ≤ N) (i0 : 0 ≤ i) (i9 : i < 2147483648) (s1 : S.length = 1320) (fr to : Int) (t : List Int) {w : Nat → xC} {m : Nat → Int} {En L : List Int} (hs : seg S fr to = t) (f0 : 0 ≤ fr) (fe : fr + t.length = to) (to9 : to ≤ 1320) (hr : ∀ s ∈ t, 0 ≤ s ∧ s < 204 ∧ (s < 99 → s < 26)) (hm : w 27 = .inr (8, mF m)) (hS : w 28 = cI 0 S) (hE : w 50 = cI 0 En) (nE : En.length = 400) (hL : TLs m L i) (h8 : L.length + 3 * t.length ≤ 800) (h1 : t.length ≤ 100) :
    ∃ (w' : Nat → xC) (m' : Nat → Int) (En' : List Int), Fr ksE w w' ∧ w' 27 = .inr (8, mF m') ∧ w' 50 = cI 0 En' ∧ En'.length = 400 ∧ mE m m' ∧ TLs m' (L ++ goT t []) i ∧ Xc (d + 2) 138 [.ref 30, .int (iZ fr), .int (iZ to)] (hp w N) (none, hp w' N) := by
  have hc : c1 (lv_args 0 [.ref 30, .int (iZ fr), .int (iZ to)]) := by simp [c1, lv_args, Value.category]
  have l0 : x_lk (lv_args 0 [.ref 30, .int (iZ fr), .int (iZ to)]) 0 = some (.ref 30) := rfl
  have l1 : x_lk (lv_args 0 [.ref 30, .int (iZ fr), .int (iZ to)]) 1 = some (.int (iZ fr)) := rfl
  have l2 : x_lk (lv_args 0 [.ref 30, .int (iZ fr), .int (iZ to)]) 2 = some (.int (iZ to)) := rfl
  have C3 := c1_st (i := 3) (v := .int (iZ 0)) rfl hc
  have C4 := c1_st (i := 4) (v := .int (iZ fr)) rfl C3
  obtain ⟨w', m', En', a1, a2, a3, a4, a5, a6, a7⟩ := l138 d hN i0 i9 s1 to to9 t [] fr w m En L _ hs f0 fe hr hm hS hE nE True.intro hL (by simp only [List.length_nil]; omega) (by simp only [List.length_nil]; omega) ⟨C4, by rw [lk_s C3, lk_s hc]; exact l0, by rw [lk_s C3, lk_s hc]; exact l2, by rw [lk_s C3, lk_s hc]; rfl, by rw [lk_s C3]; rfl⟩
  refine ⟨w', m', En', a1, a2, a3, a4, a5, a6, Xc.of rfl (by simp [lg_sl, Value.category]) (Gx.run 20 Cs.tt (fun C _ => ?_) a7) (hp_le (Nat.le_refl _) (fun j _ => ?_))⟩
  · generalize lv_args 0 [.ref 30, .int (iZ fr), .int (iZ to)] = lv at hc l0 l1 l2
    simp (disch := first | (refine c1_id ?_; assumption) | (refine c1_st rfl ?_; repeat (first | assumption | refine c1_st rfl ?_)) | omega) [nx_l, nx_r, nx_n, x_st, x_push, x_bin, x_div, x_un, x_dup, x_pop, x_dup2, x_goto, x_ifeq, x_ifne, x_iflt, x_ifge, x_ifgt, x_ifle, x_iceq, x_icne, x_iclt, x_icge, x_icgt, x_icle, x_ifnull, x_ifnonnull, x_ldi, x_lda, x_sti, x_sta, x_iinc, x_gf, x_pf, x_ald, x_ast, x_aln, x_len, x_cl_, x_cv, x_cs, x_rc, x_r0, x_isT, x_oi, x_rv, x_ri, x_ra, Value.category, t138_0, t138_1, t138_2, t138_3, t138_5, t138_7, t138_8, t138_11, t138_12, t138_15, t138_17, t138_18, t138_20, t138_21, t138_23, t138_25, t138_28, t138_30, t138_32, t138_33, t138_36, t138_38, t138_40, t138_42, t138_43, t138_44, t138_45, t138_46, t138_49, t138_51, t138_54, t138_57, t138_58, t138_60, t138_63, t138_64, t138_67, t138_68, t138_70, t138_73, t138_74, t138_77, t138_80, t138_81, t138_84, t138_85, t138_88, t138_89, t138_91, t138_93, t138_96, t138_97, t138_100, t138_101, t138_102, t138_103, t138_104, t138_105, t138_106, t138_107, t138_108, t138_109, t138_112, t138_113, t138_114, t138_115, t138_116, t138_119, t138_120, t138_123, t138_124, t138_126, t138_128, t138_131, t138_132, t138_134, t138_137, t138_140, t138_141, t138_144, t138_145, t138_148, t138_149, t138_151, t138_154, t138_155, t138_157, t138_160, t138_163, t138_166, t138_169, lk_s, hp_get, hp_set, uH_at, uH_ne, uH_upd, uH_swap, iZ_add, iZ_sub, iZ_mul, iZ_neg, iZ_lt, iZ_le, iZ_eq, iZ_div, iZ_of, ix_Z, gZ_map, gZ_mapI, gZ_map', le_0, le_s, sZ_map, sZ_len, bZ_0, bZ_inj, bZ_t, bZ_f, nr_i, nr_0, nr_1, nr_b, ft_i, ft_b, ft_0, ft_1, zl_0, zl_1, zl_4, zl_40, zl_41, zl_44, zl_65, zl_97, zl_99, zl_100, mF_len, mg_0, mg_1, mg_2, mg_3, mg_4, mg_5, mg_6, mg_7, mg_8, mg_9, mg_10, mg_11, mg_12, mg_13, mg_14, mg_15, mg_16, mg_17, mg_18, mg_19, mg_20, mg_21, mg_22, mg_23, mg_24, mg_25, mg_26, mg_27, mg_28, mg_29, mg_30, mg_31, mg_32, mg_33, mg_34, mg_35, mg_36, mg_37, mg_38, ms_0, ms_1, ms_2, ms_13, ms_14, ms_15, ms_16, ms_21, ms_22, ms_23, ms_24, ms_28, ms_36, ms_37, ms_38, st_at, st_ne, st_st, st_swap, l0, l1, -List.filter_filter, -List.getElem?_map, -List.getD_eq_getElem?_getD]
  · by_cases hj : j ∈ ksE
    · unfold ksE at hj
      simp only [List.mem_cons, List.not_mem_nil, or_false] at hj
      rcases hj with rfl | rfl
      · rw [hm, a2]; simp [x_c1, mF_len]
      · rw [hE, a3]; simp [x_c1, nE, a4]
    · rw [a1 j hj]
      exact Nat.le_refl _
end TU
