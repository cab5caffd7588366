/-! the law: one turn of its loop, the long calls -/

theorem GVc.len {Ds Ds' : List (List (Int × List Int) × Bool × Int × Int)} {T U U' : List Int} {out : Option Value} {lf' : Int} (h : GVc Ds T U out lf' Ds' U') : Ds.length ≤ Ds'.length ∧ ((∃ t, out = some (.retAddr t)) → kG out ≠ 0) ∧ 0 ≤ kG out ∧ kG out ≤ 4 := by
  have kb : 0 ≤ kG out ∧ kG out ≤ 4 := by
    unfold kG
    split
    · omega
    · split <;> omega
  refine ⟨?_, ?_, kb⟩
  · unfold GVc at h
    cases hrd : rdQ T with
    | none =>
      rw [hrd] at h
      rw [h.2.2.1]
      exact Nat.le_refl _
    | some l =>
      rw [hrd] at h
      dsimp only at h
      split at h
      · rw [h.2.2.1]
        exact Nat.le_refl _
      · split at h
        · rw [h.2.2.1]
          exact Nat.le_refl _
        · rw [h.2.2.1, List.length_append]
          omega
  · intro ⟨t, ht⟩
    unfold GVc at h
    cases hrd : rdQ T with
    | none =>
      rw [hrd] at h
      rw [h.1]
      decide
    | some l =>
      rw [hrd] at h
      dsimp only at h
      split at h
      · rw [h.1]
        decide
      · split at h
        · rw [h.1]
          decide
        · have e := h.1
          rw [ht] at e
          cases e
theorem AVs.len {Ds Ds' : List (List (Int × List Int) × Bool × Int × Int)} {T U U' : List Int} {rule i k j l p why : Int} (h : AVs Ds T U rule i k j l p why Ds' U') : Ds.length ≤ Ds'.length := by
  have e1 : Ds' = Ds → Ds.length ≤ Ds'.length := fun e => by rw [e]; exact Nat.le_refl _
  have e2 : ∀ q, Ds' = Ds ++ [q] → Ds.length ≤ Ds'.length := fun q e => by rw [e, List.length_append]; omega
  unfold AVs at h
  split at h
  · exact e1 h.2.1
  · split at h
    · exact e1 h.2.1
    · split at h
      · obtain ⟨rr, C', _, h⟩ := h
        split at h
        · exact e2 _ h.2.1
        · exact e1 h.2.1
      · split at h
        · exact e1 h.2.1
        · split at h
          · exact e1 h.2.1
          · split at h
            · split at h
              · exact e2 _ h.2.1
              · exact e1 h.2.1
            · obtain ⟨rr, C', _, h⟩ := h
              split at h
              · split at h
                · exact e2 _ h.2.1
                · exact e1 h.2.1
              · exact e1 h.2.1
theorem kS_r (why : Int) : 0 ≤ kS why ∧ kS why ≤ 4 ∧ (kS why = 0 → why = 0) := by
  unfold kS
  split
  · next h => exact ⟨by omega, by omega, fun _ => h⟩
  · split
    · exact ⟨by omega, by omega, fun z => absurd z (by decide)⟩
    · split
      · exact ⟨by omega, by omega, fun z => absurd z (by decide)⟩
      · split
        · exact ⟨by omega, by omega, fun z => absurd z (by decide)⟩
        · exact ⟨by omega, by omega, fun z => absurd z (by decide)⟩
section TURN2
variable {w w1 w2 : Nat → xC} {N N1 : Nat} {Ds : List (List (Int × List Int) × Bool × Int × Int)} {T U : List Int} {m m' : Nat → Int} {x : Nat → List Int} {b L : Nat} {xs : Nat → Int32} {lv : xL} {i : Int} {cnt clm cf lf : Int}
theorem e_0 (d : Nat) (hV : LV b i lv) (hN : 53 ≤ N) (c0 : w 0 = dk cnt clm cf lf) (r27 : w1 27 = .inr (8, mF m)) (k1 : Int) (s1 : sA b L xs i 1 k1) (c : Int) (hch : ((iZ k1).toUInt32 % 65536).toInt32 = iZ c) (A : Int) (a : Xc (d + 57) 68 [.ref 3, .int (iZ c)] (hp w N) (some (.int (iZ A)), hp w1 N)) (a2 : Xc (d + 57) 94 [.ref 30, .int (iZ c)] (hp w1 N) (some (.int (iZ A)), hp w2 N)) : ∀ r, Gx (q_kL b L xs) (d + 57) 523 (lv, [], hp w2 N) r → Gx (q_kL b L xs) (d + 57) 108 (lv, [], hp w N) r := by
  intro r hr
  obtain ⟨hc, l0, l1, l2, l3, l4⟩ := hV
  refine Gx.run 40 (Cs.and a a2) (fun X mm => ?_) hr
  obtain ⟨ma, mb⟩ := mm
  simp (disch := first | (refine c1_id ?_; assumption) | (refine c1_st rfl ?_; repeat (first | assumption | refine c1_st rfl ?_)) | omega) [nx_l, nx_r, nx_n, x_st, x_push, x_bin, x_div, x_un, x_dup, x_pop, x_dup2, x_goto, x_ifeq, x_ifne, x_iflt, x_ifge, x_ifgt, x_ifle, x_iceq, x_icne, x_iclt, x_icge, x_icgt, x_icle, x_ifnull, x_ifnonnull, x_ldi, x_lda, x_sti, x_sta, x_iinc, x_gf, x_pf, x_ald, x_ast, x_aln, x_len, x_cl_, x_cv, x_cs, x_rc, x_r0, x_isT, x_oi, x_rv, x_ri, x_ra, Value.category, tL_108, tL_109, tL_110, tL_112, tL_113, tL_114, tL_115, tL_116, tL_119, tL_120, tL_121, tL_123, tL_124, tL_125, tL_126, tL_127, tL_130, lk_s, hp_get, hp_set, uH_at, uH_ne, uH_upd, uH_swap, iZ_add, iZ_sub, iZ_mul, iZ_neg, iZ_lt, iZ_le, iZ_eq, iZ_div, iZ_of, ix_Z, gZ_map, gZ_mapI, gZ_map', le_0, le_s, sZ_map, sZ_len, bZ_0, bZ_inj, bZ_t, bZ_f, nr_i, nr_0, nr_1, nr_b, ft_i, ft_b, ft_0, ft_1, zl_0, zl_1, zl_2, zl_3, zl_4, zl_5, zl_6, zl_7, l0, l1, l2, l4, c0, r27, ma, mb, s1, hch, dk, -List.filter_filter, -List.getElem?_map, -List.getD_eq_getElem?_getD]
theorem lb_0 (d : Nat) (hV : LV b i lv) (hI : IV w N Ds T U m x) (i0 : 0 ≤ i) (i7 : i + 7 ≤ L) (hL : L < 10000) : Nx d b L xs i 108 lv w N Ds := by
  obtain ⟨⟨clm, cf, hC⟩, hR, hK, hB, v, hv⟩ := id hI
  have hN := hC.2.2.2.2.2.2.2.2.2.2.2.1
  obtain ⟨k1, r1, s1⟩ := sl_o (b := b) (xs := xs) i0 i7 hL 1 (by decide) (by decide)
  obtain ⟨c, c0, c9, hch⟩ := ch_Z k1
  obtain ⟨w1, f1, hC1, a⟩ := m68 (d + 55) hC c c0 c9
  have hR1 := hR.hw (w' := w1) (fun j j0 j1 => f1 j (by omega))
  obtain ⟨w2, m', x', f2, -, e1, hR2, a2⟩ := m94 (d + 56) hN hR1 c c0 c9
  exact ⟨w2, N, lv, Ds, _, U, m', x', hV, ⟨⟨clm, cf, by rw [e1]; exact hC1.frR f2⟩, hR2, hK, hB, v, (f2 52 (by omega)).trans ((f1 52 (by omega)).trans hv)⟩, Nat.le_refl _, by omega, Nat.le_refl _, e_0 d hV hN hC.1 hR1.1.1 k1 s1 c hch _ a a2⟩
set_option maxHeartbeats 1000000 in
theorem e_1 (d : Nat) (hV : LV b i lv) (hN : 53 ≤ N1) (r1 : w1 27 = .inr (8, mF m)) (r2 : w2 27 = .inr (8, mF m')) {v : Int64} (c52 : w2 52 = lO v) (kk r0 : Int) (kk0 : 0 ≤ kk) (kk4 : kk ≤ 4) (hk : kk = 0 → v = (iZ r0).toInt64) (a : Xc (d + 57) 146 [.ref 3, .ref 55] (hp w N) (some (.int (iZ kk)), hp w1 N1)) (a2 : Xc (d + 57) 108 [.ref 30] (hp w1 N1) (some (.int (iZ r0)), hp w2 N1)) (a3 : Xc (d + 57) 92 [.ref 30] (hp w2 N1) (some (.int (iZ kk)), hp w2 N1)) : ∀ r, Gx (q_kL b L xs) (d + 57) 523 ((6, .int (iZ r0)) :: ((5, .int (iZ kk)) :: lv.filter (x_keep 5)).filter (x_keep 6), [], hp w2 N1) r → Gx (q_kL b L xs) (d + 57) 135 (lv, [], hp w N) r := by
  intro r hr
  obtain ⟨hc, l0, l1, l2, l3, l4⟩ := hV
  refine Gx.run 40 (Cs.and a (Cs.and a2 a3)) (fun X mm => ?_) hr
  obtain ⟨ma, mb, me⟩ := mm
  by_cases hz : kk = 0
  · rw [hk hz] at c52
    rw [hz] at ma me ⊢
    simp (disch := first | (refine c1_id ?_; assumption) | (refine c1_st rfl ?_; repeat (first | assumption | refine c1_st rfl ?_)) | omega) [nx_l, nx_r, nx_n, x_st, x_push, x_bin, x_div, x_un, x_dup, x_pop, x_dup2, x_goto, x_ifeq, x_ifne, x_iflt, x_ifge, x_ifgt, x_ifle, x_iceq, x_icne, x_iclt, x_icge, x_icgt, x_icle, x_ifnull, x_ifnonnull, x_ldi, x_lda, x_sti, x_sta, x_iinc, x_gf, x_pf, x_ald, x_ast, x_aln, x_len, x_cl_, x_cv, x_cs, x_rc, x_r0, x_isT, x_oi, x_rv, x_ri, x_ra, Value.category, tL_135, tL_136, tL_137, tL_140, tL_142, tL_143, tL_146, tL_148, tL_149, tL_152, tL_154, tL_159, tL_161, tL_164, tL_165, tL_166, tL_167, tL_169, tL_170, tL_171, tL_176, lk_s, hp_get, hp_set, uH_at, uH_ne, uH_upd, uH_swap, iZ_add, iZ_sub, iZ_mul, iZ_neg, iZ_lt, iZ_le, iZ_eq, iZ_div, iZ_of, ix_Z, gZ_map, gZ_mapI, gZ_map', le_0, le_s, sZ_map, sZ_len, bZ_0, bZ_inj, bZ_t, bZ_f, nr_i, nr_0, nr_1, nr_b, ft_i, ft_b, ft_0, ft_1, zl_0, zl_1, zl_2, zl_3, zl_4, zl_5, zl_6, zl_7, l0, l1, l2, l3, l4, r1, r2, c52, ma, mb, me, x_aldl, x_lcmp, get_0, lg_eq, lO, -List.filter_filter, -List.getElem?_map, -List.getD_eq_getElem?_getD]
  · simp (disch := first | (refine c1_id ?_; assumption) | (refine c1_st rfl ?_; repeat (first | assumption | refine c1_st rfl ?_)) | omega) [nx_l, nx_r, nx_n, x_st, x_push, x_bin, x_div, x_un, x_dup, x_pop, x_dup2, x_goto, x_ifeq, x_ifne, x_iflt, x_ifge, x_ifgt, x_ifle, x_iceq, x_icne, x_iclt, x_icge, x_icgt, x_icle, x_ifnull, x_ifnonnull, x_ldi, x_lda, x_sti, x_sta, x_iinc, x_gf, x_pf, x_ald, x_ast, x_aln, x_len, x_cl_, x_cv, x_cs, x_rc, x_r0, x_isT, x_oi, x_rv, x_ri, x_ra, Value.category, tL_135, tL_136, tL_137, tL_140, tL_142, tL_143, tL_146, tL_148, tL_149, tL_152, tL_154, tL_159, tL_161, tL_164, tL_165, tL_166, tL_167, tL_169, tL_170, tL_171, tL_176, lk_s, hp_get, hp_set, uH_at, uH_ne, uH_upd, uH_swap, iZ_add, iZ_sub, iZ_mul, iZ_neg, iZ_lt, iZ_le, iZ_eq, iZ_div, iZ_of, ix_Z, gZ_map, gZ_mapI, gZ_map', le_0, le_s, sZ_map, sZ_len, bZ_0, bZ_inj, bZ_t, bZ_f, nr_i, nr_0, nr_1, nr_b, ft_i, ft_b, ft_0, ft_1, zl_0, zl_1, zl_2, zl_3, zl_4, zl_5, zl_6, zl_7, l0, l1, l2, l3, l4, r1, r2, c52, ma, mb, me, hz, -List.filter_filter, -List.getElem?_map, -List.getD_eq_getElem?_getD]
theorem lb_1 (d : Nat) (hV : LV b i lv) (hI : IV w N Ds T U m x) : Nx d b L xs i 135 lv w N Ds := by
  obtain ⟨⟨clm, cf, hC⟩, hR, hK, hB, v, hv⟩ := id hI
  have hN := hC.2.2.2.2.2.2.2.2.2.2.2.1
  have hU : U.length = 26 := hR.2.2.2.2.2.1.1
  obtain ⟨w1, N1, kk, out, Ds', U', clm', cf', lf', v', n1, n2, hC1, f1, hG, h52, hv', hkk, a⟩ := m146 d hC hv
  have hR1 := hR.hw (w' := w1) (fun j j0 j1 => f1 j j0 (by omega))
  have hN1 : 53 ≤ N1 := by omega
  obtain ⟨w2, m', x', r0, f2, hGn, a2⟩ := m108 (d + 51) hN1 hR1
  obtain ⟨g1, g2, g3, g4, g5, g6⟩ := given_eq hU hG hGn hK hB
  obtain ⟨q1, q2, q3, q4⟩ := hG.len
  have a3 := m92 (d + 56) hN1 g1
  rw [g3, ← hkk] at a3
  have e52 : w2 52 = lO v' := (f2 52 (by omega)).trans h52
  refine ⟨w2, N1, _, Ds', [], U', m', x', (hV.st (q := 5) (v := .int (iZ kk)) (by decide) rfl).st (q := 6) (v := .int (iZ r0)) (by decide) rfl, ⟨⟨clm', cf', by rw [g2]; exact hC1.frR f2⟩, g1, g5, g6, v', e52⟩, n1, n2, q1, e_1 d hV hN1 hR1.1.1 g1.1.1 e52 kk r0 (by omega) (by omega) (fun hz => ?_) a a2 a3⟩
  have kz : kG out = 0 := by omega
  rcases hv' with hv' | hv'
  · exact absurd kz (q2 hv')
  · rcases g4 with g4 | g4
    · exact absurd kz g4.2
    · rw [hv', g4]
set_option maxHeartbeats 1000000 in
theorem e_2 (d : Nat) (hV : LV b i lv) (hN : 53 ≤ N1) (r1 : w1 27 = .inr (8, mF m)) (r2 : w2 27 = .inr (8, mF m')) (k1 : Int) (k2 : Int) (k3 : Int) (k4 : Int) (k5 : Int) (k6 : Int) (s1 : sA b L xs i 1 k1) (s2 : sA b L xs i 2 k2) (s3 : sA b L xs i 3 k3) (s4 : sA b L xs i 4 k4) (s5 : sA b L xs i 5 k5) (s6 : sA b L xs i 6 k6) {v : Int64} (c52 : w2 52 = lO v) (kk r0 : Int) (kk0 : 0 ≤ kk) (kk4 : kk ≤ 4) (hk : kk = 0 → v = (iZ r0).toInt64) (a : Xc (d + 57) 147 [.ref 3, .int (iZ k1), .int (iZ k2), .int (iZ k3), .int (iZ k4), .int (iZ k5), .int (iZ k6), .ref 55] (hp w N) (some (.int (iZ kk)), hp w1 N1)) (a2 : Xc (d + 57) 121 [.ref 30, .int (iZ k1), .int (iZ k2), .int (iZ k3), .int (iZ k4), .int (iZ k5), .int (iZ k6)] (hp w1 N1) (some (.int (iZ r0)), hp w2 N1)) (a3 : Xc (d + 57) 92 [.ref 30] (hp w2 N1) (some (.int (iZ kk)), hp w2 N1)) : ∀ r, Gx (q_kL b L xs) (d + 57) 523 ((6, .int (iZ r0)) :: ((5, .int (iZ kk)) :: lv.filter (x_keep 5)).filter (x_keep 6), [], hp w2 N1) r → Gx (q_kL b L xs) (d + 57) 179 (lv, [], hp w N) r := by
  intro r hr
  obtain ⟨hc, l0, l1, l2, l3, l4⟩ := hV
  refine Gx.run 120 (Cs.and a (Cs.and a2 a3)) (fun X mm => ?_) hr
  obtain ⟨ma, mb, me⟩ := mm
  by_cases hz : kk = 0
  · rw [hk hz] at c52
    rw [hz] at ma me ⊢
    simp (disch := first | (refine c1_id ?_; assumption) | (refine c1_st rfl ?_; repeat (first | assumption | refine c1_st rfl ?_)) | omega) [nx_l, nx_r, nx_n, x_st, x_push, x_bin, x_div, x_un, x_dup, x_pop, x_dup2, x_goto, x_ifeq, x_ifne, x_iflt, x_ifge, x_ifgt, x_ifle, x_iceq, x_icne, x_iclt, x_icge, x_icgt, x_icle, x_ifnull, x_ifnonnull, x_ldi, x_lda, x_sti, x_sta, x_iinc, x_gf, x_pf, x_ald, x_ast, x_aln, x_len, x_cl_, x_cv, x_cs, x_rc, x_r0, x_isT, x_oi, x_rv, x_ri, x_ra, Value.category, tL_179, tL_180, tL_181, tL_183, tL_184, tL_185, tL_186, tL_187, tL_189, tL_190, tL_191, tL_192, tL_193, tL_195, tL_196, tL_197, tL_198, tL_199, tL_201, tL_202, tL_203, tL_204, tL_205, tL_207, tL_208, tL_209, tL_210, tL_211, tL_213, tL_215, tL_216, tL_217, tL_218, tL_221, tL_223, tL_224, tL_225, tL_227, tL_228, tL_229, tL_230, tL_231, tL_233, tL_234, tL_235, tL_236, tL_237, tL_239, tL_240, tL_241, tL_242, tL_243, tL_245, tL_246, tL_247, tL_248, tL_249, tL_251, tL_252, tL_253, tL_254, tL_255, tL_257, tL_259, tL_260, tL_261, tL_264, tL_266, tL_267, tL_270, tL_272, tL_277, tL_279, tL_282, tL_283, tL_284, tL_285, tL_287, tL_288, tL_289, tL_294, lk_s, hp_get, hp_set, uH_at, uH_ne, uH_upd, uH_swap, iZ_add, iZ_sub, iZ_mul, iZ_neg, iZ_lt, iZ_le, iZ_eq, iZ_div, iZ_of, ix_Z, gZ_map, gZ_mapI, gZ_map', le_0, le_s, sZ_map, sZ_len, bZ_0, bZ_inj, bZ_t, bZ_f, nr_i, nr_0, nr_1, nr_b, ft_i, ft_b, ft_0, ft_1, zl_0, zl_1, zl_2, zl_3, zl_4, zl_5, zl_6, zl_7, l0, l1, l2, l3, l4, r1, r2, c52, ma, mb, me, s1, s2, s3, s4, s5, s6, x_aldl, x_lcmp, get_0, lg_eq, lO, -List.filter_filter, -List.getElem?_map, -List.getD_eq_getElem?_getD]
  · simp (disch := first | (refine c1_id ?_; assumption) | (refine c1_st rfl ?_; repeat (first | assumption | refine c1_st rfl ?_)) | omega) [nx_l, nx_r, nx_n, x_st, x_push, x_bin, x_div, x_un, x_dup, x_pop, x_dup2, x_goto, x_ifeq, x_ifne, x_iflt, x_ifge, x_ifgt, x_ifle, x_iceq, x_icne, x_iclt, x_icge, x_icgt, x_icle, x_ifnull, x_ifnonnull, x_ldi, x_lda, x_sti, x_sta, x_iinc, x_gf, x_pf, x_ald, x_ast, x_aln, x_len, x_cl_, x_cv, x_cs, x_rc, x_r0, x_isT, x_oi, x_rv, x_ri, x_ra, Value.category, tL_179, tL_180, tL_181, tL_183, tL_184, tL_185, tL_186, tL_187, tL_189, tL_190, tL_191, tL_192, tL_193, tL_195, tL_196, tL_197, tL_198, tL_199, tL_201, tL_202, tL_203, tL_204, tL_205, tL_207, tL_208, tL_209, tL_210, tL_211, tL_213, tL_215, tL_216, tL_217, tL_218, tL_221, tL_223, tL_224, tL_225, tL_227, tL_228, tL_229, tL_230, tL_231, tL_233, tL_234, tL_235, tL_236, tL_237, tL_239, tL_240, tL_241, tL_242, tL_243, tL_245, tL_246, tL_247, tL_248, tL_249, tL_251, tL_252, tL_253, tL_254, tL_255, tL_257, tL_259, tL_260, tL_261, tL_264, tL_266, tL_267, tL_270, tL_272, tL_277, tL_279, tL_282, tL_283, tL_284, tL_285, tL_287, tL_288, tL_289, tL_294, lk_s, hp_get, hp_set, uH_at, uH_ne, uH_upd, uH_swap, iZ_add, iZ_sub, iZ_mul, iZ_neg, iZ_lt, iZ_le, iZ_eq, iZ_div, iZ_of, ix_Z, gZ_map, gZ_mapI, gZ_map', le_0, le_s, sZ_map, sZ_len, bZ_0, bZ_inj, bZ_t, bZ_f, nr_i, nr_0, nr_1, nr_b, ft_i, ft_b, ft_0, ft_1, zl_0, zl_1, zl_2, zl_3, zl_4, zl_5, zl_6, zl_7, l0, l1, l2, l3, l4, r1, r2, c52, ma, mb, me, s1, s2, s3, s4, s5, s6, hz, -List.filter_filter, -List.getElem?_map, -List.getD_eq_getElem?_getD]
theorem lb_2 (d : Nat) (hV : LV b i lv) (hI : IV w N Ds T U m x) (i0 : 0 ≤ i) (i7 : i + 7 ≤ L) (hL : L < 10000) : Nx d b L xs i 179 lv w N Ds := by
  obtain ⟨⟨clm, cf, hC⟩, hR, hK, hB, v, hv⟩ := id hI
  have hN := hC.2.2.2.2.2.2.2.2.2.2.2.1
  have hU : U.length = 26 := hR.2.2.2.2.2.1.1
  have hGc : ∀ i : Nat, i < Ds.length → gC (cl Ds i).1 := fun i hi => (hR.2.2.2.2.1 i hi).1.2.1
  obtain ⟨k1, r1, s1⟩ := sl_o (b := b) (xs := xs) i0 i7 hL 1 (by decide) (by decide)
  obtain ⟨k2, r2, s2⟩ := sl_o (b := b) (xs := xs) i0 i7 hL 2 (by decide) (by decide)
  obtain ⟨k3, r3, s3⟩ := sl_o (b := b) (xs := xs) i0 i7 hL 3 (by decide) (by decide)
  obtain ⟨k4, r4, s4⟩ := sl_o (b := b) (xs := xs) i0 i7 hL 4 (by decide) (by decide)
  obtain ⟨k5, r5, s5⟩ := sl_o (b := b) (xs := xs) i0 i7 hL 5 (by decide) (by decide)
  obtain ⟨k6, r6, s6⟩ := sl_o (b := b) (xs := xs) i0 i7 hL 6 (by decide) (by decide)
  obtain ⟨w1, N1, why, Ds', U', clm', cf', v', n1, n2, hC1, f1, hG, h52, hv', a⟩ := m147 d hC hv hK hR.hr k1 k2 k3 k4 k5 k6 r1 r2 r3 r4 r5 r6
  have hR1 := hR.hw (w' := w1) (fun j j0 j1 => f1 j j0 (by omega))
  have hN1 : 53 ≤ N1 := by omega
  obtain ⟨w2, m', x', r0, f2, hGn, a2⟩ := m121 (d + 50) hN1 hR1 k1 k2 k3 k4 k5 k6 r1 r2 r3 r4 r5 r6
  obtain ⟨g1, g2, g3, g4, g5, g6⟩ := step_eq hU hGc hG hGn hK hB
  have q1 := hG.len
  obtain ⟨q3, q4, q5⟩ := kS_r why
  have a3 := m92 (d + 56) hN1 g1
  rw [g3] at a3
  have e52 : w2 52 = lO v' := (f2 52 (by omega)).trans h52
  refine ⟨w2, N1, _, Ds', [], U', m', x', (hV.st (q := 5) (v := .int (iZ (kS why))) (by decide) rfl).st (q := 6) (v := .int (iZ r0)) (by decide) rfl, ⟨⟨clm', cf', by rw [g2]; exact hC1.frR f2⟩, g1, g5, g6, v', e52⟩, n1, n2, q1, e_2 d hV hN1 hR1.1.1 g1.1.1 k1 k2 k3 k4 k5 k6 s1 s2 s3 s4 s5 s6 e52 (kS why) r0 q3 q4 (fun hz => ?_) a a2 a3⟩
  rw [hv' (q5 hz), g4 (q5 hz)]
end TURN2
