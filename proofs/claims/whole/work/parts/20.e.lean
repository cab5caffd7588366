def p_ch (c : Int32) : xC := .inl (2, .inl ((List.replicate 60 0).set 0 (vp_nar .char c)))
def p_H4 (c : Int32) : xH := (p_H0.set 2 (p_ch c)).set 1 (.inr (3, [.ref 3, .int 0, .int 1]))
def p_H5 (c : Int32) : xH := ((p_H4 c).set 37 (p_ch c)).set 27 (.inr (8, p_fm.set 13 (.int 1)))
theorem p_w1 (c : Int32) (hc : ¬ (c < 32 ∨ 126 < c)) : x_call x_tb 400 8 68 [.ref 1, .int c] p_H0 = some (some (.int 1), p_H4 c) := e68b 6 p_H0 c _ p_o0 rfl rfl rfl hc
theorem p_w2 (c : Int32) (hc : ¬ (c < 32 ∨ 126 < c)) : x_call x_tb 400 8 94 [.ref 28, .int c] (p_H4 c) = some (some (.int 1), p_H5 c) := e94b 7 (p_H4 c) c p_fm rfl rfl rfl rfl rfl hc
theorem p_w3 (c : Int32) (hc : c < 32 ∨ 126 < c) : x_call x_tb 400 8 68 [.ref 1, .int c] p_H0 = some (some (.int 0), p_H0) := e68a 6 p_H0 c _ p_o0 rfl rfl hc
theorem p_w4 (c : Int32) (hc : c < 32 ∨ 126 < c) : x_call x_tb 400 8 94 [.ref 28, .int c] p_H0 = some (some (.int 0), p_H0) := e94a 7 p_H0 c p_fm rfl rfl rfl hc
theorem p_H4m (c : Int32) : (p_H4 c)[27]? = some (.inr (8, p_fm)) := rfl
theorem p_H5z (c : Int32) : (p_H5 c).length = 53 ∧ x_sl (p_H5 c) = x_sl p_H0 := by
  have a := p_sl2 (h := p_H0) (i := 2) (j := 1) (c1' := p_ch c) (c2' := .inr (3, [.ref 3, .int 0, .int 1])) (by decide) rfl rfl (by simp [x_c1, p_ch]) rfl
  have b := p_sl2 (h := p_H4 c) (i := 37) (j := 27) (c1' := p_ch c) (c2' := .inr (8, p_fm.set 13 (.int 1))) (by decide) rfl rfl (by simp [x_c1, p_ch]) rfl
  exact ⟨b.2.1.trans a.2.1, b.2.2.trans a.2.2⟩
set_option maxRecDepth 8000 in
theorem p_g0 (xs : Nat → Int32) (C : xF) (h0 h1 h2 : xH) (f0 f1 : List Value) (c u : Int32) (hce : ((xs 1).toUInt32 % 65536).toInt32 = c) (e1 : C 68 [.ref 1, .int c] h0 = some (some (.int u), h1)) (e2 : C 94 [.ref 28, .int c] h1 = some (some (.int u), h2)) (hm0 : h0[0]? = some (.inr (0, f0))) (hm1 : h1[27]? = some (.inr (8, f1))) : x_go (q_kL 7 xs) C 200 108 ([(4, .int 0), (3, .ref 53), (2, .ref 28), (1, .ref 1), (0, .ref 0)], [], h0) = some (some (.int 1), h2) := by
  simp [x_go, x_st, x_ldi, x_lda, x_sti, x_sta, x_lk, x_keep, lv_args, x_push, x_bin, x_div, x_un, x_dup, x_pop, x_dup2, x_goto, x_ifeq, x_ifne, x_iflt, x_ifge, x_ifgt, x_ifle, x_iceq, x_icne, x_iclt, x_icge, x_icgt, x_icle, x_ifnull, x_ifnonnull, x_tsw, x_iinc, x_gf, x_pf, x_ald, x_ast, x_ix, x_aln, x_cl_, x_cv, x_cs, x_rc, x_r0, x_isT, x_oi, x_rv, x_ri, x_ra, x_nw_, x_na, x_thr, narrow, fits, Value.category, x_sln, x_sld, x_nal, -List.getElem?_eq_getElem, -getElem?_pos, fL_108, fL_109, fL_110, fL_112, fL_113, fL_114, fL_115, fL_116, fL_119, fL_120, fL_121, fL_123, fL_124, fL_125, fL_126, fL_127, fL_130, fL_523, fL_526, fL_23, fL_25, fL_26, fL_27, fL_29, fL_30, fL_529, fL_530, n1, n7, hm0, hm1, hce, e1, e2]
theorem p_c0 (xs : Nat → Int32) : ∃ h', x_go (q_kL 7 xs) (x_call x_tb 400 8) 200 108 ([(4, .int 0), (3, .ref 53), (2, .ref 28), (1, .ref 1), (0, .ref 0)], [], p_H0) = some (some (.int 1), h') ∧ h'.length = 53 ∧ x_sl h' = x_sl p_H0 := by
  generalize hce : (((xs 1).toUInt32 % 65536).toInt32) = c
  by_cases hc : c < 32 ∨ 126 < c
  · exact ⟨p_H0, p_g0 xs (x_call x_tb 400 8) p_H0 p_H0 p_H0 _ p_fm c 0 hce (p_w3 c hc) (p_w4 c hc) p_o0 p_m0, by decide +kernel, rfl⟩
  · exact ⟨p_H5 c, p_g0 xs (x_call x_tb 400 8) p_H0 (p_H4 c) (p_H5 c) _ p_fm c 1 hce (p_w1 c hc) (p_w2 c hc) p_o0 (p_H4m c), (p_H5z c).1, (p_H5z c).2⟩
set_option maxRecDepth 8000 in
theorem p_cd (xs : Nat → Int32) : x_go (q_kL 7 xs) (x_call x_tb 400 8) 200 523 ([(4, .int 0), (3, .ref 53), (2, .ref 28), (1, .ref 1), (0, .ref 0)], [], p_H0) = some (some (.int 1), p_H0) := by
  simp [x_go, x_st, x_ldi, x_lda, x_sti, x_sta, x_lk, x_keep, lv_args, x_push, x_bin, x_div, x_un, x_dup, x_pop, x_dup2, x_goto, x_ifeq, x_ifne, x_iflt, x_ifge, x_ifgt, x_ifle, x_iceq, x_icne, x_iclt, x_icge, x_icgt, x_icle, x_ifnull, x_ifnonnull, x_tsw, x_iinc, x_gf, x_pf, x_ald, x_ast, x_ix, x_aln, x_cl_, x_cv, x_cs, x_rc, x_r0, x_isT, x_oi, x_rv, x_ri, x_ra, x_nw_, x_na, x_thr, narrow, fits, Value.category, x_sln, x_sld, x_nal, -List.getElem?_eq_getElem, -getElem?_pos, fL_523, fL_526, fL_23, fL_25, fL_26, fL_27, fL_29, fL_30, fL_529, fL_530, n7]
