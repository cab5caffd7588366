def x_is8 (c : Option xC) : Bool := match c with
  | some (.inr (k, _)) => k == 8
  | _ => false
theorem x_is8E {c : Option xC} (h : x_is8 c = true) : ∃ fs, c = some (.inr (8, fs)) := by
  unfold x_is8 at h
  split at h
  · next k fs =>
    have : k = 8 := by simpa using h
    subst this
    exact ⟨fs, rfl⟩
  · cases h
theorem p_G2m : ∃ fs, p_G2[27]? = some (.inr (8, fs)) := x_is8E (by decide +kernel)
set_option maxRecDepth 8000 in
theorem p_g1 (xs : Nat → Int32) (C : xF) (h0 h1 h2 : xH) (f1 f2 : List Value) (e1 : C 146 [.ref 1, .ref 53] h0 = some (some (.int 1), h1)) (e2 : C 108 [.ref 28] h1 = some (some (.int 0), h2)) (e3 : C 92 [.ref 28] h2 = some (some (.int 1), h2)) (hm1 : h1[27]? = some (.inr (8, f1))) (hm2 : h2[27]? = some (.inr (8, f2))) : x_go (q_kL 7 xs) C 200 135 ([(4, .int 0), (3, .ref 53), (2, .ref 28), (1, .ref 1), (0, .ref 0)], [], h0) = some (some (.int 1), h2) := by
  simp [x_go, x_st, x_ldi, x_lda, x_sti, x_sta, x_lk, x_keep, lv_args, x_push, x_bin, x_div, x_un, x_dup, x_pop, x_dup2, x_goto, x_ifeq, x_ifne, x_iflt, x_ifge, x_ifgt, x_ifle, x_iceq, x_icne, x_iclt, x_icge, x_icgt, x_icle, x_ifnull, x_ifnonnull, x_tsw, x_iinc, x_gf, x_pf, x_ald, x_ast, x_ix, x_aln, x_cl_, x_cv, x_cs, x_rc, x_r0, x_isT, x_oi, x_rv, x_ri, x_ra, x_nw_, x_na, x_thr, narrow, fits, Value.category, x_sln, x_sld, x_nal, -List.getElem?_eq_getElem, -getElem?_pos, fL_135, fL_136, fL_137, fL_140, fL_142, fL_143, fL_146, fL_148, fL_149, fL_152, fL_154, fL_159, fL_161, fL_176, fL_523, fL_526, fL_23, fL_25, fL_26, fL_27, fL_29, fL_30, fL_529, fL_530, n1, n2, n3, n4, n5, n6, n7, hm1, hm2, e1, e2, e3]
set_option maxRecDepth 8000 in
theorem p_g2 (xs : Nat → Int32) (C : xF) (h0 h1 h2 : xH) (f1 f2 : List Value) (e1 : C 147 [.ref 1, .int (xs 1), .int (xs 2), .int (xs 3), .int (xs 4), .int (xs 5), .int (xs 6), .ref 53] h0 = some (some (.int 2), h1)) (e2 : C 121 [.ref 28, .int (xs 1), .int (xs 2), .int (xs 3), .int (xs 4), .int (xs 5), .int (xs 6)] h1 = some (some (.int 0), h2)) (e3 : C 92 [.ref 28] h2 = some (some (.int 2), h2)) (hm1 : h1[27]? = some (.inr (8, f1))) (hm2 : h2[27]? = some (.inr (8, f2))) : x_go (q_kL 7 xs) C 200 179 ([(4, .int 0), (3, .ref 53), (2, .ref 28), (1, .ref 1), (0, .ref 0)], [], h0) = some (some (.int 1), h2) := by
  simp [x_go, x_st, x_ldi, x_lda, x_sti, x_sta, x_lk, x_keep, lv_args, x_push, x_bin, x_div, x_un, x_dup, x_pop, x_dup2, x_goto, x_ifeq, x_ifne, x_iflt, x_ifge, x_ifgt, x_ifle, x_iceq, x_icne, x_iclt, x_icge, x_icgt, x_icle, x_ifnull, x_ifnonnull, x_tsw, x_iinc, x_gf, x_pf, x_ald, x_ast, x_ix, x_aln, x_cl_, x_cv, x_cs, x_rc, x_r0, x_isT, x_oi, x_rv, x_ri, x_ra, x_nw_, x_na, x_thr, narrow, fits, Value.category, x_sln, x_sld, x_nal, -List.getElem?_eq_getElem, -getElem?_pos, fL_179, fL_180, fL_181, fL_183, fL_184, fL_185, fL_186, fL_187, fL_189, fL_190, fL_191, fL_192, fL_193, fL_195, fL_196, fL_197, fL_198, fL_199, fL_201, fL_202, fL_203, fL_204, fL_205, fL_207, fL_208, fL_209, fL_210, fL_211, fL_213, fL_215, fL_216, fL_217, fL_218, fL_221, fL_223, fL_224, fL_225, fL_227, fL_228, fL_229, fL_230, fL_231, fL_233, fL_234, fL_235, fL_236, fL_237, fL_239, fL_240, fL_241, fL_242, fL_243, fL_245, fL_246, fL_247, fL_248, fL_249, fL_251, fL_252, fL_253, fL_254, fL_255, fL_257, fL_259, fL_260, fL_261, fL_264, fL_266, fL_267, fL_270, fL_272, fL_277, fL_279, fL_294, fL_523, fL_526, fL_23, fL_25, fL_26, fL_27, fL_29, fL_30, fL_529, fL_530, n1, n2, n3, n4, n5, n6, n7, hm1, hm2, e1, e2, e3]
theorem p_c1 (xs : Nat → Int32) : x_go (q_kL 7 xs) (x_call x_tb 400 8) 200 135 ([(4, .int 0), (3, .ref 53), (2, .ref 28), (1, .ref 1), (0, .ref 0)], [], p_H0) = some (some (.int 1), p_G2) := by
  obtain ⟨f1, hm1⟩ := p_G1m
  obtain ⟨f2, hm2⟩ := p_G2m
  exact p_g1 xs (x_call x_tb 400 8) p_H0 p_G1 p_G2 f1 f2 p_146 p_108 p_thrG hm1 hm2
theorem p_c2 (xs : Nat → Int32) : x_go (q_kL 7 xs) (x_call x_tb 400 8) 200 179 ([(4, .int 0), (3, .ref 53), (2, .ref 28), (1, .ref 1), (0, .ref 0)], [], p_H0) = some (some (.int 1), p_H3) :=
  p_g2 xs (x_call x_tb 400 8) p_H0 p_H2 p_H3 p_fm _ (e147 (xs 1) (xs 2) (xs 3) (xs 4) (xs 5) (xs 6)) (p_121 (xs 1) (xs 2) (xs 3) (xs 4) (xs 5) (xs 6)) p_thr3 p_m2 p_m3
