/-! the class: the text of a clause as a whole; a form is copied; a clause is made -/

def TXo (lo : Nat) (w : Nat → xC) (N t : Nat) (L : List Int) : Prop := (t = 0 ∧ L = [35]) ∨ ∃ s v : Nat, t = s + 3 ∧ lo ≤ s ∧ s < N ∧ lo ≤ v ∧ v < N ∧ w s = sO v ∧ w v = cI 5 L ∧ (∀ x ∈ L, 0 ≤ x ∧ x < 128) ∧ L.length < 300
theorem TXo.mv {lo lo' : Nat} {w w' : Nat → xC} {N N' t : Nat} {L : List Int} (h : TXo lo w N t L) (hlo : lo' ≤ lo) (hN : N ≤ N') (f : ∀ j, lo ≤ j → j < N → w' j = w j) : TXo lo' w' N' t L := by
  rcases h with h | ⟨s, v, h1, h2, h3, h4, h5, h6, h7, h8⟩
  · exact Or.inl h
  · exact Or.inr ⟨s, v, h1, by omega, by omega, by omega, by omega, (f s h2 h3).trans h6, (f v h4 h5).trans h7, h8⟩
theorem SB.bytes {w : Nat → xC} {N sb : Nat} {L : List Int} (h : SB w N sb L) : ∀ x ∈ L, 0 ≤ x ∧ x < 128 := by
  obtain ⟨v, Bv, g1, g2, g3, g4, g5, g6, g7, g8⟩ := h
  intro x hx
  have := SB.take (v := v) g5 g8
  rw [← this] at hx
  exact g7 x (List.mem_of_mem_take hx)
section TX3
variable {sb a : Nat} {D : List (Int × List Int)}
set_option maxHeartbeats 1000000 in
theorem l89 (d : Nat) (h9 : no9 D) : ∀ (r k : Nat) (w : Nat → xC) (N : Nat) (L : List Int) (lv : xL), k + r = D.length → FT w sb a D → SB w N sb L → L.length ≤ 3 * stC D k + 3 * k → lv89 lv sb a k → ∃ (w1 : Nat → xC) (N1 : Nat), TB w N sb L w1 N1 (L ++ txL (D.drop k) k) ∧ Gx q_k89 (d + 46) 20 (lv, [], hp w N) (some (.ref (N1 + 3)), hp (uH (uH w1 N1 (sO (N1 + 1))) (N1 + 1) (cI 5 (L ++ txL (D.drop k) k))) (N1 + 2))
  | 0, k, w, N, L, lv, hk, hF, hS, hL, hv => by
    obtain ⟨S, E, B, o, f1, f2, f3, f4, f5, f6, f7, f8, f9, f10⟩ := hF
    have d6 := f6.1
    have f40 := f6.2.1
    have mk := stC_mono (C := D) (show k ≤ D.length by omega)
    rw [stC_all] at mk
    rw [List.drop_eq_nil_of_le (by omega)]
    have e : L ++ txL [] k = L := List.append_nil L
    rw [e]
    have X := m167 (N := N) (d + 40) hS (by omega)
    refine ⟨w, N, TB.rf hS, ?_⟩
    obtain ⟨⟨F, hF14⟩, sN⟩ := hS.k14
    obtain ⟨hc, l0, l1, l2⟩ := hv
    have g1 := f1.1
    obtain ⟨kk, hkk⟩ : ∃ kk : Int, kk = (k : Int) := ⟨_, rfl⟩
    obtain ⟨n, hn⟩ : ∃ n : Int, n = (D.length : Int) := ⟨_, rfl⟩
    rw [← hn] at g1
    rw [← hkk] at l2
    have b1 : n ≤ kk := by omega
    have k0 : 0 ≤ n := by omega
    have n9 : kk ≤ 6 := by omega
    obtain ⟨w2, hw2⟩ : ∃ w2, w2 = uH (uH w N (sO (N + 1))) (N + 1) (cI 5 L) := ⟨_, rfl⟩
    rw [← hw2] at X ⊢
    refine Gx.fin 30 X (fun X mm => ?_)
    simp (disch := first | (refine c1_id ?_; assumption) | (refine c1_st rfl ?_; repeat (first | assumption | refine c1_st rfl ?_)) | omega) [nx_l, nx_r, nx_n, x_st, x_push, x_bin, x_div, x_un, x_dup, x_pop, x_dup2, x_goto, x_ifeq, x_ifne, x_iflt, x_ifge, x_ifgt, x_ifle, x_iceq, x_icne, x_iclt, x_icge, x_icgt, x_icle, x_ifnull, x_ifnonnull, x_ldi, x_lda, x_sti, x_sta, x_iinc, x_gf, x_pf, x_ald, x_ast, x_aln, x_len, x_cl_, x_cv, x_cs, x_rc, x_r0, x_isT, x_oi, x_rv, x_ri, x_ra, Value.category, t89_0, t89_1, t89_4, t89_7, t89_9, t89_10, t89_13, t89_14, t89_17, t89_18, t89_19, t89_20, t89_21, t89_22, t89_25, t89_28, t89_29, t89_32, t89_33, t89_35, t89_38, t89_39, t89_40, t89_43, t89_44, t89_45, t89_48, t89_49, t89_51, t89_54, t89_55, t89_56, t89_57, t89_60, t89_61, t89_62, t89_63, t89_66, t89_69, t89_70, t89_71, t89_72, t89_73, t89_74, t89_75, t89_78, t89_79, t89_80, t89_82, t89_85, t89_86, t89_87, t89_88, t89_89, t89_90, t89_93, t89_94, t89_97, t89_100, t89_101, t89_104, lk_s, hp_get, hp_set, uH_at, uH_ne, uH_upd, uH_swap, iZ_add, iZ_sub, iZ_mul, iZ_neg, iZ_lt, iZ_le, iZ_eq, iZ_div, iZ_of, ix_Z, gZ_map, gZ_mapI, gZ_map', le_0, le_s, sZ_map, sZ_len, bZ_0, bZ_inj, bZ_t, bZ_f, nr_i, nr_0, nr_1, nr_b, ft_i, ft_b, ft_0, ft_1, zl_0, zl_1, zl_61, zl_124, zl_126, l0, l1, l2, g1, b1, hF14, mm, -List.filter_filter, -List.getElem?_map, -List.getD_eq_getElem?_getD]
  | r + 1, k, w, N, L, lv, hk, hF, hS, hL, hv => by
    have hkD : k < D.length := by omega
    have hF' := hF
    obtain ⟨S, E, B, o, f1, f2, f3, f4, f5, f6, f7, f8, f9, f10⟩ := hF'
    have d6 := f6.1
    have f40 := f6.2.1
    have sk := stC_succ hkD
    have mk := stC_mono (C := D) (show k + 1 ≤ D.length from hkD)
    rw [stC_all] at mk
    have hT := (f6.2.2 _ (lC_mem hkD)).2.1
    obtain ⟨w1, N1, i1, g55⟩ := P89 (sb := sb) (a := a) d k hkD w N L lv hF hS (by omega) hv
    have i1' := i1
    obtain ⟨_, _, _, hS1, fr1, _⟩ := i1'
    have p1 : (if 0 < k then [(124 : Int)] else []).length ≤ 1 := by split <;> simp
    have p2 : (if (lC D k).1 = 1 then [(126 : Int)] else []).length ≤ 1 := by split <;> simp
    obtain ⟨w2, N2, lv2, i2, L2, g20⟩ := Q89 (sb := sb) (a := a) d k hkD h9 w1 N1 _ lv (hF.mv fr1) hS1 (by rw [List.length_append, List.length_append]; omega) hv
    have i2' := i2
    obtain ⟨_, _, _, hS2, fr2, _⟩ := i2'
    have ll := ltT_len hT
    have eT : L ++ ((if 0 < k then [124] else []) ++ (if (lC D k).1 = 1 then [126] else [])) ++ (if (lC D k).2.getD 0 0 = 99 then goT (tm (lC D k).2 1) [] ++ (61 :: goT ((lC D k).2.drop (1 + (tm (lC D k).2 1).length)) []) else goT (lC D k).2 []) = L ++ (if 0 < k then [124] else []) ++ ltT (lC D k) := by
      unfold ltT
      simp
    rw [eT] at i2 hS2
    obtain ⟨w3, N3, i3, i4⟩ := l89 d h9 r (k + 1) w2 N2 _ lv2 (by omega) ((hF.mv fr1).mv fr2) hS2 (by rw [List.length_append, List.length_append]; omega) L2
    have e2 : L ++ txL (D.drop k) k = L ++ (if 0 < k then [124] else []) ++ ltT (lC D k) ++ txL (D.drop (k + 1)) (k + 1) := by
      rw [drop_lC hkD]
      show L ++ ((if 0 < k then [124] else []) ++ (ltT (lC D k) ++ txL (D.drop (k + 1)) (k + 1))) = _
      simp
    rw [e2]
    exact ⟨w3, N3, (i1.tr i2).tr i3, g55 _ (g20 _ i4)⟩
theorem txL_len : ∀ (D : List (Int × List Int)) (k : Nat), (∀ y ∈ D, Ts 1 y.2) → (txL D k).length ≤ 3 * (flt D).length + 3 * D.length
  | [], _, _ => by simp [txL]
  | y :: D, k, h => by
    have ih := txL_len D (k + 1) (fun z hz => h z (List.mem_cons_of_mem _ hz))
    have l1 := ltT_len (h y List.mem_cons_self)
    have p1 : (if 0 < k then [(124 : Int)] else []).length ≤ 1 := by split <;> simp
    show ((if 0 < k then [124] else []) ++ (ltT y ++ txL D (k + 1))).length ≤ _
    rw [List.length_append, List.length_append, flt_cons, List.length_append, List.length_cons]
    omega
theorem m89 (d : Nat) {w : Nat → xC} {N : Nat} (hN : 53 ≤ N) (hF : FT w N a D) (h9 : no9 D) :
    ∃ (w' : Nat → xC) (N' t : Nat), N ≤ N' ∧ N' ≤ N + 200 ∧ (∀ j, j < N → w' j = w j) ∧ (∀ j, N ≤ j → j < N' → x_c1 (w' j) ≤ 400) ∧ TXo N w' N' t (txC D) ∧ Xc (d + 47) 89 [.ref (a + 3)] (hp w N) (some (.ref t), hp w' N') := by
  have hF' := hF
  obtain ⟨S, E, B, o, f1, f2, f3, f4, f5, f6, f7, f8, f9, f10⟩ := hF'
  have g1 := f1.1
  have d6 := f6.1
  have f40 := f6.2.1
  by_cases h0 : D.length = 0
  · refine ⟨w, N, 0, Nat.le_refl _, by omega, fun _ _ => rfl, fun j j0 j1 => by omega, Or.inl ⟨rfl, by unfold txC; rw [if_pos h0]⟩, ?_⟩
    refine Xc.of rfl (by simp [lg_sl, Value.category]) ?_ (x_le.rf)
    have hc : c1 (lv_args 0 [.ref (a + 3)]) := by simp [c1, lv_args, Value.category]
    have l0 : x_lk (lv_args 0 [.ref (a + 3)]) 0 = some (.ref (a + 3)) := rfl
    generalize lv_args 0 [.ref (a + 3)] = lv at hc l0
    refine Gx.fin 20 Cs.tt (fun X _ => ?_)
    have e0 : (D.length : Int) = 0 := by omega
    rw [e0] at g1
    simp (disch := first | (refine c1_id ?_; assumption) | (refine c1_st rfl ?_; repeat (first | assumption | refine c1_st rfl ?_)) | omega) [nx_l, nx_r, nx_n, x_st, x_push, x_bin, x_div, x_un, x_dup, x_pop, x_dup2, x_goto, x_ifeq, x_ifne, x_iflt, x_ifge, x_ifgt, x_ifle, x_iceq, x_icne, x_iclt, x_icge, x_icgt, x_icle, x_ifnull, x_ifnonnull, x_ldi, x_lda, x_sti, x_sta, x_iinc, x_gf, x_pf, x_ald, x_ast, x_aln, x_len, x_cl_, x_cv, x_cs, x_rc, x_r0, x_isT, x_oi, x_rv, x_ri, x_ra, Value.category, t89_0, t89_1, t89_4, t89_7, t89_9, t89_10, t89_13, t89_14, t89_17, t89_18, t89_19, t89_20, t89_21, t89_22, t89_25, t89_28, t89_29, t89_32, t89_33, t89_35, t89_38, t89_39, t89_40, t89_43, t89_44, t89_45, t89_48, t89_49, t89_51, t89_54, t89_55, t89_56, t89_57, t89_60, t89_61, t89_62, t89_63, t89_66, t89_69, t89_70, t89_71, t89_72, t89_73, t89_74, t89_75, t89_78, t89_79, t89_80, t89_82, t89_85, t89_86, t89_87, t89_88, t89_89, t89_90, t89_93, t89_94, t89_97, t89_100, t89_101, t89_104, lk_s, hp_get, hp_set, uH_at, uH_ne, uH_upd, uH_swap, iZ_add, iZ_sub, iZ_mul, iZ_neg, iZ_lt, iZ_le, iZ_eq, iZ_div, iZ_of, ix_Z, gZ_map, gZ_mapI, gZ_map', le_0, le_s, sZ_map, sZ_len, bZ_0, bZ_inj, bZ_t, bZ_f, nr_i, nr_0, nr_1, nr_b, ft_i, ft_b, ft_0, ft_1, zl_0, zl_1, zl_61, zl_124, zl_126, l0, g1, -List.filter_filter, -List.getElem?_map, -List.getD_eq_getElem?_getD]
  · obtain ⟨w1, hw1⟩ : ∃ w1, w1 = uH w N (.inr (14, [.null, .int (iZ 0), .int (iZ 0), .int (iZ 0)])) := ⟨_, rfl⟩
    have X7 := m157 (w := w1) (N := N + 1) (sb := N) (d + 44) (by omega) (by rw [hw1, uH_at])
    obtain ⟨w2, hw2⟩ : ∃ w2, w2 = uH (uH w1 (N + 1) (cI 5 (List.replicate 16 0))) N (bO (N + 1) 0) := ⟨_, rfl⟩
    rw [← hw2] at X7
    have fr2 : ∀ j, j < N → w2 j = w j := fun j hj => by rw [hw2, uH_ne (by omega), uH_ne (by omega), hw1, uH_ne (by omega)]
    have hS2 : SB w2 (N + 2) N [] := ⟨N + 1, List.replicate 16 0, by rw [hw2, uH_at]; rfl, by omega, by omega, by rw [hw2, uH_ne (by omega), uH_at], by simp, by simp, fun x hx => by have := List.eq_of_mem_replicate hx; omega, fun i hi => absurd hi (Nat.not_lt_zero _)⟩
    have hF2 : FT w2 N a D := hF.mv fr2
    have key : ∃ (w' : Nat → xC) (N' t : Nat), N ≤ N' ∧ N' ≤ N + 200 ∧ (∀ j, j < N → w' j = w j) ∧ (∀ j, N ≤ j → j < N' → x_c1 (w' j) ≤ 400) ∧ TXo N w' N' t (txC D) ∧ Gx q_k89 (d + 46) 0 (lv_args 0 [.ref (a + 3)], [], hp w N) (some (.ref t), hp w' N') := by
      have hc : c1 (lv_args 0 [.ref (a + 3)]) := by simp [c1, lv_args, Value.category]
      have l0 : x_lk (lv_args 0 [.ref (a + 3)]) 0 = some (.ref (a + 3)) := rfl
      generalize lv_args 0 [.ref (a + 3)] = lv at hc l0 ⊢
      have C1 := c1_st (i := 1) (v := .ref (N + 3)) rfl hc
      have C2 := c1_st (i := 2) (v := .int (iZ 0)) rfl C1
      obtain ⟨w3, N3, i1, i2⟩ := l89 (sb := N) (a := a) (D := D) d h9 D.length 0 w2 (N + 2) [] ((2, .int (iZ 0)) :: List.filter (x_keep 2) ((1, .ref (N + 3)) :: lv.filter (x_keep 1))) (by omega) hF2 hS2 (by simp) ⟨C2, by rw [lk_s C1, lk_s hc]; exact l0, by rw [lk_s C1, lk_s hc]; rfl, by rw [lk_s C1]; rfl⟩
      rw [List.drop_zero, List.nil_append] at i1 i2
      have eC : txC D = txL D 0 := by unfold txC; rw [if_neg h0]
      rw [← eC] at i1 i2
      have tl := txL_len D 0 (fun y hy => (f6.2.2 y hy).2.1)
      rw [← eC] at tl
      obtain ⟨j1, j2, j3, j4, j5, j6, j7⟩ := i1
      simp only [List.length_nil, Nat.sub_zero] at j3
      have k14 := j4
      obtain ⟨v, Bv, q1, q2, q3, _⟩ := k14
      refine ⟨uH (uH w3 N3 (sO (N3 + 1))) (N3 + 1) (cI 5 (txC D)), N3 + 2, N3 + 3, by omega, by omega, fun j hj => ?_, fun j a0 a1 => ?_, Or.inr ⟨N3, N3 + 1, rfl, by omega, by omega, by omega, by omega, by rw [uH_ne (by omega), uH_at], uH_at _ _ _, j4.bytes, by omega⟩, ?_⟩
      · rw [uH_ne (by omega), uH_ne (by omega), j5 j hj]
        exact fr2 j hj
      · by_cases e1 : j = N3 + 1
        · rw [e1, uH_at]
          simp [x_c1]
          omega
        · rw [uH_ne e1]
          by_cases e2 : j = N3
          · rw [e2, uH_at]
            simp [x_c1]
          · rw [uH_ne e2]
            by_cases e3 : j = N
            · rw [e3, q1]
              simp [x_c1]
            · rcases j6 j (by omega) (by omega) with ⟨b1, b2⟩ | b
              · have e4 : j = N + 1 := by omega
                rw [e4, hw2, uH_ne (by omega), uH_at] at b2
                rw [e4]
                simp [x_c1] at b2 ⊢
                omega
              · exact b
      · refine Gx.run 40 X7 (fun X mm => ?_) i2
        obtain ⟨n, hn⟩ : ∃ n : Int, n = (D.length : Int) := ⟨_, rfl⟩
        rw [← hn] at g1
        have n0 : ¬ n = 0 := by omega
        have n1 : 0 ≤ n := by omega
        have n9 : n ≤ 6 := by omega
        rw [hw1] at mm
        simp (disch := first | (refine c1_id ?_; assumption) | (refine c1_st rfl ?_; repeat (first | assumption | refine c1_st rfl ?_)) | omega) [nx_l, nx_r, nx_n, x_st, x_push, x_bin, x_div, x_un, x_dup, x_pop, x_dup2, x_goto, x_ifeq, x_ifne, x_iflt, x_ifge, x_ifgt, x_ifle, x_iceq, x_icne, x_iclt, x_icge, x_icgt, x_icle, x_ifnull, x_ifnonnull, x_ldi, x_lda, x_sti, x_sta, x_iinc, x_gf, x_pf, x_ald, x_ast, x_aln, x_len, x_cl_, x_cv, x_cs, x_rc, x_r0, x_isT, x_oi, x_rv, x_ri, x_ra, Value.category, t89_0, t89_1, t89_4, t89_7, t89_9, t89_10, t89_13, t89_14, t89_17, t89_18, t89_19, t89_20, t89_21, t89_22, t89_25, t89_28, t89_29, t89_32, t89_33, t89_35, t89_38, t89_39, t89_40, t89_43, t89_44, t89_45, t89_48, t89_49, t89_51, t89_54, t89_55, t89_56, t89_57, t89_60, t89_61, t89_62, t89_63, t89_66, t89_69, t89_70, t89_71, t89_72, t89_73, t89_74, t89_75, t89_78, t89_79, t89_80, t89_82, t89_85, t89_86, t89_87, t89_88, t89_89, t89_90, t89_93, t89_94, t89_97, t89_100, t89_101, t89_104, lk_s, hp_get, hp_set, uH_at, uH_ne, uH_upd, uH_swap, iZ_add, iZ_sub, iZ_mul, iZ_neg, iZ_lt, iZ_le, iZ_eq, iZ_div, iZ_of, ix_Z, gZ_map, gZ_mapI, gZ_map', le_0, le_s, sZ_map, sZ_len, bZ_0, bZ_inj, bZ_t, bZ_f, nr_i, nr_0, nr_1, nr_b, ft_i, ft_b, ft_0, ft_1, zl_0, zl_1, zl_61, zl_124, zl_126, l0, g1, n0, mm, x_nw_, hp_push, hp_len, -List.filter_filter, -List.getElem?_map, -List.getD_eq_getElem?_getD]
    obtain ⟨w', N', t, z1, z2, z3, z4, z5, z6⟩ := key
    exact ⟨w', N', t, z1, z2, z3, z4, z5, Xc.of rfl (by simp [lg_sl, Value.category]) z6 (hp_le z1 (fun j hj => by rw [z3 j hj]; exact Nat.le_refl _))⟩
theorem m7 (d : Nat) {w : Nat → xC} {N n f t : Nat} (hn : n < N) (hw : w n = .inr (1, [.null, .int (iZ 0), .int (iZ 0), .null])) (lvl src : Int) : Xc (d + 1) 7 [.ref (n + 3), .ref f, .int (iZ lvl), .int (iZ src), .ref t] (hp w N) (none, hp (uH w n (.inr (1, [.ref f, .int (iZ lvl), .int (iZ src), .ref t]))) N) := by
  refine Xc.of rfl (by simp [lg_sl, Value.category]) ?_ (hp_up (by rw [hw]; simp [x_c1]))
  have hc : c1 (lv_args 0 [.ref (n + 3), .ref f, .int (iZ lvl), .int (iZ src), .ref t]) := by simp [c1, lv_args, Value.category]
  have l0 : x_lk (lv_args 0 [.ref (n + 3), .ref f, .int (iZ lvl), .int (iZ src), .ref t]) 0 = some (.ref (n + 3)) := rfl
  have l1 : x_lk (lv_args 0 [.ref (n + 3), .ref f, .int (iZ lvl), .int (iZ src), .ref t]) 1 = some (.ref f) := rfl
  have l2 : x_lk (lv_args 0 [.ref (n + 3), .ref f, .int (iZ lvl), .int (iZ src), .ref t]) 2 = some (.int (iZ lvl)) := rfl
  have l3 : x_lk (lv_args 0 [.ref (n + 3), .ref f, .int (iZ lvl), .int (iZ src), .ref t]) 3 = some (.int (iZ src)) := rfl
  have l4 : x_lk (lv_args 0 [.ref (n + 3), .ref f, .int (iZ lvl), .int (iZ src), .ref t]) 4 = some (.ref t) := rfl
  generalize lv_args 0 [.ref (n + 3), .ref f, .int (iZ lvl), .int (iZ src), .ref t] = lv at hc l0 l1 l2 l3 l4
  refine Gx.fin 30 Cs.tt (fun X _ => ?_)
  simp (disch := first | (refine c1_id ?_; assumption) | (refine c1_st rfl ?_; repeat (first | assumption | refine c1_st rfl ?_)) | omega) [nx_l, nx_r, nx_n, x_st, x_push, x_bin, x_div, x_un, x_dup, x_pop, x_dup2, x_goto, x_ifeq, x_ifne, x_iflt, x_ifge, x_ifgt, x_ifle, x_iceq, x_icne, x_iclt, x_icge, x_icgt, x_icle, x_ifnull, x_ifnonnull, x_ldi, x_lda, x_sti, x_sta, x_iinc, x_gf, x_pf, x_ald, x_ast, x_aln, x_len, x_cl_, x_cv, x_cs, x_rc, x_r0, x_isT, x_oi, x_rv, x_ri, x_ra, Value.category, t7_0, t7_1, t7_4, t7_5, t7_6, t7_9, t7_10, t7_11, t7_14, t7_15, t7_16, t7_19, t7_20, t7_22, t7_25, lk_s, hp_get, hp_set, uH_at, uH_ne, uH_upd, uH_swap, iZ_add, iZ_sub, iZ_mul, iZ_neg, iZ_lt, iZ_le, iZ_eq, iZ_div, iZ_of, ix_Z, gZ_map, gZ_mapI, gZ_map', le_0, le_s, sZ_map, sZ_len, bZ_0, bZ_inj, bZ_t, bZ_f, nr_i, nr_0, nr_1, nr_b, ft_i, ft_b, ft_0, ft_1, zl_0, zl_1, l0, l1, l2, l3, l4, hw, nr_ob, ft_ob, -List.filter_filter, -List.getElem?_map, -List.getD_eq_getElem?_getD]
theorem nar_z {b : Int} (h : b = 0 ∨ b = 1) : vp_nar .boolean (iZ b) = iZ b := by
  rcases h with rfl | rfl <;> decide
theorem l9 (d : Nat) {w : Nat → xC} {b a : Nat} {S E B : List Int} {c l o : Int} (hab : a + 3 < b) (hf : fo w a S E B c l o) (c0 : 0 ≤ c) (cB : c ≤ B.length) (lB : B.length < 10000) (hB : ∀ i, 0 ≤ i → i < c → gZ B i = 0 ∨ gZ B i = 1) {F : List Value} (hb : w b = .inr (4, F)) (hF : F[2]? = some (.ref (b + 3 + 3))) :
    ∀ (r : Nat) (k : Int) (Q : List Int) (lv : xL), k + r = c → 0 ≤ k → Q.length = c.toNat → (∀ i, 0 ≤ i → i < k → gZ Q i = gZ B i) → c1 lv → x_lk lv 0 = some (.ref (b + 3)) → x_lk lv 1 = some (.ref (a + 3)) → x_lk lv 2 = some (.int (iZ k)) → ∃ (Q' : List Int) (lv' : xL), Q'.length = c.toNat ∧ (∀ i, 0 ≤ i → i < c → gZ Q' i = gZ B i) ∧ c1 lv' ∧ x_lk lv' 0 = some (.ref (b + 3)) ∧ x_lk lv' 1 = some (.ref (a + 3)) ∧ ∀ res, Gx q_k9 d 72 (lv', [], hp (uH w (b + 3) (cI 1 Q')) (b + 4)) res → Gx q_k9 d 46 (lv, [], hp (uH w (b + 3) (cI 1 Q)) (b + 4)) res
  | 0, k, Q, lv, hk, k0, hQ, hq, hc, l0, l1, l2 => by
    refine ⟨Q, lv, hQ, fun i i0 i1 => hq i i0 (by omega), hc, l0, l1, fun res hres => ?_⟩
    refine Gx.run 20 Cs.tt (fun X _ => ?_) hres
    have g1 := hf.1
    have b1 : c ≤ k := by omega
    have k9 : k < 10000 := by omega
    have na : a ≠ b + 3 := by omega
    simp (disch := first | (refine c1_id ?_; assumption) | (refine c1_st rfl ?_; repeat (first | assumption | refine c1_st rfl ?_)) | omega) [nx_l, nx_r, nx_n, x_st, x_push, x_bin, x_div, x_un, x_dup, x_pop, x_dup2, x_goto, x_ifeq, x_ifne, x_iflt, x_ifge, x_ifgt, x_ifle, x_iceq, x_icne, x_iclt, x_icge, x_icgt, x_icle, x_ifnull, x_ifnonnull, x_ldi, x_lda, x_sti, x_sta, x_iinc, x_gf, x_pf, x_ald, x_ast, x_aln, x_len, x_cl_, x_cv, x_cs, x_rc, x_r0, x_isT, x_oi, x_rv, x_ri, x_ra, Value.category, t9_0, t9_1, t9_4, t9_5, t9_6, t9_9, t9_10, t9_13, t9_16, t9_19, t9_20, t9_21, t9_24, t9_25, t9_28, t9_31, t9_34, t9_35, t9_36, t9_39, t9_41, t9_44, t9_45, t9_46, t9_47, t9_48, t9_51, t9_54, t9_55, t9_58, t9_59, t9_60, t9_63, t9_64, t9_65, t9_66, t9_69, t9_72, t9_73, t9_74, t9_77, t9_80, t9_81, t9_82, t9_85, t9_88, lk_s, hp_get, hp_set, uH_at, uH_ne, uH_upd, uH_swap, iZ_add, iZ_sub, iZ_mul, iZ_neg, iZ_lt, iZ_le, iZ_eq, iZ_div, iZ_of, ix_Z, gZ_map, gZ_mapI, gZ_map', le_0, le_s, sZ_map, sZ_len, bZ_0, bZ_inj, bZ_t, bZ_f, nr_i, nr_0, nr_1, nr_b, ft_i, ft_b, ft_0, ft_1, zl_0, zl_1, l0, l1, l2, g1, b1, -List.filter_filter, -List.getElem?_map, -List.getD_eq_getElem?_getD]
  | r + 1, k, Q, lv, hk, k0, hQ, hq, hc, l0, l1, l2 => by
    have C2 := c1_st (i := 2) (v := .int (iZ (k + 1))) rfl hc
    obtain ⟨Q', lv', i1, i2, i3, i4, i5, i6⟩ := l9 d hab hf c0 cB lB hB hb hF r (k + 1) (sZ Q k (gZ B k)) ((2, .int (iZ (k + 1))) :: lv.filter (x_keep 2)) (by omega) (by omega) (by rw [sZ_len]; exact hQ) (fun i j0 j1 => by
      rw [gZ_sZ k0 (by omega) j0]
      split
      · next e => rw [e]
      · exact hq i j0 (by omega)) C2 (by rw [lk_s hc]; exact l0) (by rw [lk_s hc]; exact l1) (by rw [lk_s hc]; rfl)
    refine ⟨Q', lv', i1, i2, i3, i4, i5, fun res hres => Gx.run 40 Cs.tt (fun X _ => ?_) (Gx.run (pc := 69) (z := ((2, .int (iZ (k + 1))) :: lv.filter (x_keep 2), [], hp (uH w (b + 3) (cI 1 (sZ Q k (gZ B k)))) (b + 4))) 5 Cs.tt (fun X _ => ?_) (i6 _ hres))⟩
    · have g1 := hf.1
      have g4 := hf.2.2.2
      have b1 : ¬ c ≤ k := by omega
      have k9 : c < 10001 := by omega
      have kB : k < B.length := by omega
      have kQ : k < Q.length := by omega
      have lQ : Q.length < 20000 := by omega
      have nz := nar_z (hB k k0 (by omega))
      have na : a ≠ b + 3 := by omega
      have na2 : a + 3 ≠ b + 3 := by omega
      have nb : b ≠ b + 3 := by omega
      simp (disch := first | (refine c1_id ?_; assumption) | (refine c1_st rfl ?_; repeat (first | assumption | refine c1_st rfl ?_)) | omega) [nx_l, nx_r, nx_n, x_st, x_push, x_bin, x_div, x_un, x_dup, x_pop, x_dup2, x_goto, x_ifeq, x_ifne, x_iflt, x_ifge, x_ifgt, x_ifle, x_iceq, x_icne, x_iclt, x_icge, x_icgt, x_icle, x_ifnull, x_ifnonnull, x_ldi, x_lda, x_sti, x_sta, x_iinc, x_gf, x_pf, x_ald, x_ast, x_aln, x_len, x_cl_, x_cv, x_cs, x_rc, x_r0, x_isT, x_oi, x_rv, x_ri, x_ra, Value.category, t9_0, t9_1, t9_4, t9_5, t9_6, t9_9, t9_10, t9_13, t9_16, t9_19, t9_20, t9_21, t9_24, t9_25, t9_28, t9_31, t9_34, t9_35, t9_36, t9_39, t9_41, t9_44, t9_45, t9_46, t9_47, t9_48, t9_51, t9_54, t9_55, t9_58, t9_59, t9_60, t9_63, t9_64, t9_65, t9_66, t9_69, t9_72, t9_73, t9_74, t9_77, t9_80, t9_81, t9_82, t9_85, t9_88, lk_s, hp_get, hp_set, uH_at, uH_ne, uH_upd, uH_swap, iZ_add, iZ_sub, iZ_mul, iZ_neg, iZ_lt, iZ_le, iZ_eq, iZ_div, iZ_of, ix_Z, gZ_map, gZ_mapI, gZ_map', le_0, le_s, sZ_map, sZ_len, bZ_0, bZ_inj, bZ_t, bZ_f, nr_i, nr_0, nr_1, nr_b, ft_i, ft_b, ft_0, ft_1, zl_0, zl_1, l0, l1, l2, g1, g4, hb, hF, b1, nz, -List.filter_filter, -List.getElem?_map, -List.getD_eq_getElem?_getD]
    · simp (disch := first | (refine c1_id ?_; assumption) | (refine c1_st rfl ?_; repeat (first | assumption | refine c1_st rfl ?_)) | omega) [nx_l, nx_r, nx_n, x_st, x_push, x_bin, x_div, x_un, x_dup, x_pop, x_dup2, x_goto, x_ifeq, x_ifne, x_iflt, x_ifge, x_ifgt, x_ifle, x_iceq, x_icne, x_iclt, x_icge, x_icgt, x_icle, x_ifnull, x_ifnonnull, x_ldi, x_lda, x_sti, x_sta, x_iinc, x_gf, x_pf, x_ald, x_ast, x_aln, x_len, x_cl_, x_cv, x_cs, x_rc, x_r0, x_isT, x_oi, x_rv, x_ri, x_ra, Value.category, t9_0, t9_1, t9_4, t9_5, t9_6, t9_9, t9_10, t9_13, t9_16, t9_19, t9_20, t9_21, t9_24, t9_25, t9_28, t9_31, t9_34, t9_35, t9_36, t9_39, t9_41, t9_44, t9_45, t9_46, t9_47, t9_48, t9_51, t9_54, t9_55, t9_58, t9_59, t9_60, t9_63, t9_64, t9_65, t9_66, t9_69, t9_72, t9_73, t9_74, t9_77, t9_80, t9_81, t9_82, t9_85, t9_88, lk_s, hp_get, hp_set, uH_at, uH_ne, uH_upd, uH_swap, iZ_add, iZ_sub, iZ_mul, iZ_neg, iZ_lt, iZ_le, iZ_eq, iZ_div, iZ_of, ix_Z, gZ_map, gZ_mapI, gZ_map', le_0, le_s, sZ_map, sZ_len, bZ_0, bZ_inj, bZ_t, bZ_f, nr_i, nr_0, nr_1, nr_b, ft_i, ft_b, ft_0, ft_1, zl_0, zl_1, -List.filter_filter, -List.getElem?_map, -List.getD_eq_getElem?_getD]
set_option maxHeartbeats 1000000 in
theorem m9 (d : Nat) {w : Nat → xC} {b a : Nat} {S E B : List Int} {o : Int} (hab : a + 3 < b) (c l : Nat) (hf : fo w a S E B c l o) (lS : S.length < 10000) (lE : E.length < 10000) (lB : B.length < 10000) (cE : c ≤ E.length) (cB : c ≤ B.length) (lS2 : l ≤ S.length) (hB : ∀ i : Int, 0 ≤ i → i < (c : Int) → gZ B i = 0 ∨ gZ B i = 1) (hb : w b = .inr (4, [.null, .null, .null, .int (iZ 0), .int (iZ 0), .int (iZ 0)])) :
    Xc (d + 2) 9 [.ref (b + 3), .ref (a + 3)] (hp w (b + 1)) (none, hp (uH (uH (uH (uH w b (fC b c l 0)) (b + 1) (cI 0 (S.take l))) (b + 2) (cI 0 (E.take c))) (b + 3) (cI 1 (B.take c))) (b + 4)) := by
  obtain ⟨g1, g2, g3, g4⟩ := hf
  have X1 := m149 (w := w) (N := b + 1) (a := a + 1) (A := S) d (by omega) g2 lS l lS2
  obtain ⟨w1, hw1⟩ : ∃ w1, w1 = uH (uH w b (.inr (4, [.ref (b + 1 + 3), .null, .null, .int (iZ 0), .int (iZ 0), .int (iZ 0)]))) (b + 1) (cI 0 (S.take l)) := ⟨_, rfl⟩
  have fr1 : ∀ j, j < b → w1 j = w j := fun j hj => by rw [hw1, uH_ne (by omega), uH_ne (by omega)]
  have X2 := m149 (w := w1) (N := b + 2) (a := a + 2) (A := E) d (by omega) ((fr1 _ (by omega)).trans g3) lE c cE
  obtain ⟨w2, hw2⟩ : ∃ w2, w2 = uH (uH w1 b (.inr (4, [.ref (b + 1 + 3), .ref (b + 2 + 3), .null, .int (iZ 0), .int (iZ 0), .int (iZ 0)]))) (b + 2) (cI 0 (E.take c)) := ⟨_, rfl⟩
  have fr2 : ∀ j, j < b → w2 j = w j := fun j hj => by rw [hw2, uH_ne (by omega), uH_ne (by omega)]; exact fr1 j hj
  have A3 := fun K lv r => na_hp (w := w2) (N := b + 3) (n := 41) (t := 1) (k := (c : Int)) (by omega) (by omega) K lv r
  rw [Int.toNat_natCast] at A3
  obtain ⟨w3, hw3⟩ : ∃ w3, w3 = uH w2 b (.inr (4, [.ref (b + 1 + 3), .ref (b + 2 + 3), .ref (b + 3 + 3), .int (iZ 0), .int (iZ 0), .int (iZ 0)])) := ⟨_, rfl⟩
  have fr3 : ∀ j, j < b → w3 j = w j := fun j hj => by rw [hw3, uH_ne (by omega)]; exact fr2 j hj
  obtain ⟨wz, hwz⟩ : ∃ wz, wz = uH (uH (uH (uH w b (fC b c l 0)) (b + 1) (cI 0 (S.take l))) (b + 2) (cI 0 (E.take c))) (b + 3) (cI 1 (B.take c)) := ⟨_, rfl⟩
  have hle : x_le (hp w (b + 1)) (hp wz (b + 4)) := hp_le (by omega) (fun j hj => by
    rw [hwz, uH_ne (by omega), uH_ne (by omega), uH_ne (by omega)]
    by_cases e : j = b
    · rw [e, uH_at, hb]
      simp [x_c1, fC]
    · rw [uH_ne e]
      exact Nat.le_refl _)
  rw [← hwz]
  have c1a : w1 a = .inr (4, [.ref (a + 4), .ref (a + 5), .ref (a + 6), .int (iZ (c : Int)), .int (iZ (l : Int)), .int (iZ o)]) := (fr1 a (by omega)).trans g1
  have c2a : w2 a = .inr (4, [.ref (a + 4), .ref (a + 5), .ref (a + 6), .int (iZ (c : Int)), .int (iZ (l : Int)), .int (iZ o)]) := (fr2 a (by omega)).trans g1
  have e1b : w1 b = .inr (4, [.ref (b + 1 + 3), .null, .null, .int (iZ 0), .int (iZ 0), .int (iZ 0)]) := by rw [hw1, uH_ne (by omega), uH_at]
  have e2b : w2 b = .inr (4, [.ref (b + 1 + 3), .ref (b + 2 + 3), .null, .int (iZ 0), .int (iZ 0), .int (iZ 0)]) := by rw [hw2, uH_ne (by omega), uH_at]
  have e3b : w3 b = .inr (4, [.ref (b + 1 + 3), .ref (b + 2 + 3), .ref (b + 3 + 3), .int (iZ 0), .int (iZ 0), .int (iZ 0)]) := by rw [hw3, uH_at]
  refine Xc.of rfl (by simp [lg_sl, Value.category]) ?_ (hle)
  have hc : c1 (lv_args 0 [.ref (b + 3), .ref (a + 3)]) := by simp [c1, lv_args, Value.category]
  have l0 : x_lk (lv_args 0 [.ref (b + 3), .ref (a + 3)]) 0 = some (.ref (b + 3)) := rfl
  have l1 : x_lk (lv_args 0 [.ref (b + 3), .ref (a + 3)]) 1 = some (.ref (a + 3)) := rfl
  generalize lv_args 0 [.ref (b + 3), .ref (a + 3)] = lv at hc l0 l1
  obtain ⟨cc, hcc⟩ : ∃ cc : Int, cc = (c : Int) := ⟨_, rfl⟩
  obtain ⟨ll, hll⟩ : ∃ ll : Int, ll = (l : Int) := ⟨_, rfl⟩
  -- symbols
  have gA : ∀ res, Gx q_k9 (d + 1) 19 (lv, [], hp w1 (b + 2)) res → Gx q_k9 (d + 1) 0 (lv, [], hp w (b + 1)) res := fun res hres => by
    refine Gx.run 30 X1 (fun X mm => ?_) hres
    rw [hw1, ← uH_swap (show b < b + 1 by omega)]
    have nb : b ≠ b + 1 := by omega
    simp (disch := first | (refine c1_id ?_; assumption) | (refine c1_st rfl ?_; repeat (first | assumption | refine c1_st rfl ?_)) | omega) [nx_l, nx_r, nx_n, x_st, x_push, x_bin, x_div, x_un, x_dup, x_pop, x_dup2, x_goto, x_ifeq, x_ifne, x_iflt, x_ifge, x_ifgt, x_ifle, x_iceq, x_icne, x_iclt, x_icge, x_icgt, x_icle, x_ifnull, x_ifnonnull, x_ldi, x_lda, x_sti, x_sta, x_iinc, x_gf, x_pf, x_ald, x_ast, x_aln, x_len, x_cl_, x_cv, x_cs, x_rc, x_r0, x_isT, x_oi, x_rv, x_ri, x_ra, Value.category, t9_0, t9_1, t9_4, t9_5, t9_6, t9_9, t9_10, t9_13, t9_16, t9_19, t9_20, t9_21, t9_24, t9_25, t9_28, t9_31, t9_34, t9_35, t9_36, t9_39, t9_41, t9_44, t9_45, t9_46, t9_47, t9_48, t9_51, t9_54, t9_55, t9_58, t9_59, t9_60, t9_63, t9_64, t9_65, t9_66, t9_69, t9_72, t9_73, t9_74, t9_77, t9_80, t9_81, t9_82, t9_85, t9_88, lk_s, hp_get, hp_set, uH_at, uH_ne, uH_upd, uH_swap, iZ_add, iZ_sub, iZ_mul, iZ_neg, iZ_lt, iZ_le, iZ_eq, iZ_div, iZ_of, ix_Z, gZ_map, gZ_mapI, gZ_map', le_0, le_s, sZ_map, sZ_len, bZ_0, bZ_inj, bZ_t, bZ_f, nr_i, nr_0, nr_1, nr_b, ft_i, ft_b, ft_0, ft_1, zl_0, zl_1, l0, l1, g1, hb, mm, nr_ar, ft_ar, -List.filter_filter, -List.getElem?_map, -List.getD_eq_getElem?_getD]
  -- ends
  have gB : ∀ res, Gx q_k9 (d + 1) 34 (lv, [], hp w2 (b + 3)) res → Gx q_k9 (d + 1) 19 (lv, [], hp w1 (b + 2)) res := fun res hres => by
    refine Gx.run 30 X2 (fun X mm => ?_) hres
    rw [hw2, ← uH_swap (show b < b + 2 by omega)]
    have nb : b ≠ b + 2 := by omega
    simp (disch := first | (refine c1_id ?_; assumption) | (refine c1_st rfl ?_; repeat (first | assumption | refine c1_st rfl ?_)) | omega) [nx_l, nx_r, nx_n, x_st, x_push, x_bin, x_div, x_un, x_dup, x_pop, x_dup2, x_goto, x_ifeq, x_ifne, x_iflt, x_ifge, x_ifgt, x_ifle, x_iceq, x_icne, x_iclt, x_icge, x_icgt, x_icle, x_ifnull, x_ifnonnull, x_ldi, x_lda, x_sti, x_sta, x_iinc, x_gf, x_pf, x_ald, x_ast, x_aln, x_len, x_cl_, x_cv, x_cs, x_rc, x_r0, x_isT, x_oi, x_rv, x_ri, x_ra, Value.category, t9_0, t9_1, t9_4, t9_5, t9_6, t9_9, t9_10, t9_13, t9_16, t9_19, t9_20, t9_21, t9_24, t9_25, t9_28, t9_31, t9_34, t9_35, t9_36, t9_39, t9_41, t9_44, t9_45, t9_46, t9_47, t9_48, t9_51, t9_54, t9_55, t9_58, t9_59, t9_60, t9_63, t9_64, t9_65, t9_66, t9_69, t9_72, t9_73, t9_74, t9_77, t9_80, t9_81, t9_82, t9_85, t9_88, lk_s, hp_get, hp_set, uH_at, uH_ne, uH_upd, uH_swap, iZ_add, iZ_sub, iZ_mul, iZ_neg, iZ_lt, iZ_le, iZ_eq, iZ_div, iZ_of, ix_Z, gZ_map, gZ_mapI, gZ_map', le_0, le_s, sZ_map, sZ_len, bZ_0, bZ_inj, bZ_t, bZ_f, nr_i, nr_0, nr_1, nr_b, ft_i, ft_b, ft_0, ft_1, zl_0, zl_1, l0, l1, c1a, e1b, mm, nr_ar, ft_ar, -List.filter_filter, -List.getElem?_map, -List.getD_eq_getElem?_getD]
  -- negated
  have C2 := c1_st (i := 2) (v := .int (iZ 0)) rfl hc
  have gC_ : ∀ res, Gx q_k9 (d + 1) 46 ((2, .int (iZ 0)) :: lv.filter (x_keep 2), [], hp (uH w3 (b + 3) (cI 1 (List.replicate c 0))) (b + 4)) res → Gx q_k9 (d + 1) 34 (lv, [], hp w2 (b + 3)) res := fun res hres => by
    refine Gx.run 30 Cs.tt (fun X _ => ?_) hres
    rw [hw3, ← uH_swap (show b < b + 3 by omega)]
    have nb : b ≠ b + 3 := by omega
    generalize hBB : (List.replicate c (0 : Int)) = BB at A3 ⊢
    obtain ⟨w4, hw4⟩ : ∃ w4, w4 = uH w2 (b + 3) (cI 1 BB) := ⟨_, rfl⟩
    rw [← hw4] at A3 ⊢
    have e4b : w4 b = .inr (4, [.ref (b + 1 + 3), .ref (b + 2 + 3), .null, .int (iZ 0), .int (iZ 0), .int (iZ 0)]) := by rw [hw4, uH_ne (by omega)]; exact e2b
    simp (disch := first | (refine c1_id ?_; assumption) | (refine c1_st rfl ?_; repeat (first | assumption | refine c1_st rfl ?_)) | omega) [nx_l, nx_r, nx_n, x_st, x_push, x_bin, x_div, x_un, x_dup, x_pop, x_dup2, x_goto, x_ifeq, x_ifne, x_iflt, x_ifge, x_ifgt, x_ifle, x_iceq, x_icne, x_iclt, x_icge, x_icgt, x_icle, x_ifnull, x_ifnonnull, x_ldi, x_lda, x_sti, x_sta, x_iinc, x_gf, x_pf, x_ald, x_ast, x_aln, x_len, x_cl_, x_cv, x_cs, x_rc, x_r0, x_isT, x_oi, x_rv, x_ri, x_ra, Value.category, t9_0, t9_1, t9_4, t9_5, t9_6, t9_9, t9_10, t9_13, t9_16, t9_19, t9_20, t9_21, t9_24, t9_25, t9_28, t9_31, t9_34, t9_35, t9_36, t9_39, t9_41, t9_44, t9_45, t9_46, t9_47, t9_48, t9_51, t9_54, t9_55, t9_58, t9_59, t9_60, t9_63, t9_64, t9_65, t9_66, t9_69, t9_72, t9_73, t9_74, t9_77, t9_80, t9_81, t9_82, t9_85, t9_88, lk_s, hp_get, hp_set, uH_at, uH_ne, uH_upd, uH_swap, iZ_add, iZ_sub, iZ_mul, iZ_neg, iZ_lt, iZ_le, iZ_eq, iZ_div, iZ_of, ix_Z, gZ_map, gZ_mapI, gZ_map', le_0, le_s, sZ_map, sZ_len, bZ_0, bZ_inj, bZ_t, bZ_f, nr_i, nr_0, nr_1, nr_b, ft_i, ft_b, ft_0, ft_1, zl_0, zl_1, l0, l1, c2a, e2b, e4b, A3, nr_ar, ft_ar, -List.filter_filter, -List.getElem?_map, -List.getD_eq_getElem?_getD]
  obtain ⟨Q', lv', i1, i2, i3, i4, i5, i6⟩ := l9 (w := w3) (b := b) (a := a) (S := S) (E := E) (B := B) (c := (c : Int)) (l := (l : Int)) (o := o) (d + 1) hab ⟨(fr3 _ (by omega)).trans g1, (fr3 _ (by omega)).trans g2, (fr3 _ (by omega)).trans g3, (fr3 _ (by omega)).trans g4⟩ (by omega) (by omega) lB hB e3b rfl c 0 (List.replicate c 0) ((2, .int (iZ 0)) :: lv.filter (x_keep 2)) (by omega) (by omega) (by simp) (fun i j0 j1 => by omega) C2 (by rw [lk_s hc]; exact l0) (by rw [lk_s hc]; exact l1) (by rw [lk_s hc]; rfl)
  have eQ : Q' = B.take c := by
    refine getD_ext (by rw [i1, List.length_take, Int.toNat_natCast]; omega) (fun i hi => ?_)
    rw [i1, Int.toNat_natCast] at hi
    have := i2 (i : Int) (by omega) (by omega)
    unfold gZ at this
    rw [Int.toNat_natCast] at this
    rw [this, List.getD_eq_getElem?_getD, List.getD_eq_getElem?_getD, List.getElem?_take_of_lt hi]
  rw [eQ] at i6
  refine gA _ (gB _ (gC_ _ (i6 _ ?_)))
  obtain ⟨w5, hw5⟩ : ∃ w5, w5 = uH w3 (b + 3) (cI 1 (B.take c)) := ⟨_, rfl⟩
  have e5a : w5 a = .inr (4, [.ref (a + 4), .ref (a + 5), .ref (a + 6), .int (iZ (c : Int)), .int (iZ (l : Int)), .int (iZ o)]) := by rw [hw5, uH_ne (by omega)]; exact (fr3 _ (by omega)).trans g1
  have e5b : w5 b = .inr (4, [.ref (b + 1 + 3), .ref (b + 2 + 3), .ref (b + 3 + 3), .int (iZ 0), .int (iZ 0), .int (iZ 0)]) := by rw [hw5, uH_ne (by omega)]; exact e3b
  have ez : wz = uH w5 b (.inr (4, [.ref (b + 1 + 3), .ref (b + 2 + 3), .ref (b + 3 + 3), .int (iZ (c : Int)), .int (iZ (l : Int)), .int (iZ 0)])) := by
    rw [hwz, hw5, hw3, hw2, hw1]
    funext j
    unfold uH
    by_cases j0 : j = b
    · rw [if_pos j0, if_neg (by omega), if_neg (by omega), if_neg (by omega), if_pos j0]
      rfl
    · simp only [if_neg j0]
  rw [← hw5, ez]
  have na : a ≠ b := by omega
  refine Gx.fin 30 Cs.tt (fun X _ => ?_)
  simp (disch := first | (refine c1_id ?_; assumption) | (refine c1_st rfl ?_; repeat (first | assumption | refine c1_st rfl ?_)) | omega) [nx_l, nx_r, nx_n, x_st, x_push, x_bin, x_div, x_un, x_dup, x_pop, x_dup2, x_goto, x_ifeq, x_ifne, x_iflt, x_ifge, x_ifgt, x_ifle, x_iceq, x_icne, x_iclt, x_icge, x_icgt, x_icle, x_ifnull, x_ifnonnull, x_ldi, x_lda, x_sti, x_sta, x_iinc, x_gf, x_pf, x_ald, x_ast, x_aln, x_len, x_cl_, x_cv, x_cs, x_rc, x_r0, x_isT, x_oi, x_rv, x_ri, x_ra, Value.category, t9_0, t9_1, t9_4, t9_5, t9_6, t9_9, t9_10, t9_13, t9_16, t9_19, t9_20, t9_21, t9_24, t9_25, t9_28, t9_31, t9_34, t9_35, t9_36, t9_39, t9_41, t9_44, t9_45, t9_46, t9_47, t9_48, t9_51, t9_54, t9_55, t9_58, t9_59, t9_60, t9_63, t9_64, t9_65, t9_66, t9_69, t9_72, t9_73, t9_74, t9_77, t9_80, t9_81, t9_82, t9_85, t9_88, lk_s, hp_get, hp_set, uH_at, uH_ne, uH_upd, uH_swap, iZ_add, iZ_sub, iZ_mul, iZ_neg, iZ_lt, iZ_le, iZ_eq, iZ_div, iZ_of, ix_Z, gZ_map, gZ_mapI, gZ_map', le_0, le_s, sZ_map, sZ_len, bZ_0, bZ_inj, bZ_t, bZ_f, nr_i, nr_0, nr_1, nr_b, ft_i, ft_b, ft_0, ft_1, zl_0, zl_1, i4, i5, e5a, e5b, -List.filter_filter, -List.getElem?_map, -List.getD_eq_getElem?_getD]
end TX3
