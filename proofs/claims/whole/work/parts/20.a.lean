theorem p_HAl : p_HA.length = 27 := by decide +kernel
theorem p_HBl : p_HB.length = 52 := by decide +kernel
theorem p_HBe : p_HB ++ [.inl (3, .inr (.inl [0]))] = p_H0 := rfl
theorem n1 : (1 : Int32).toNatClampNeg = 1 := by decide
theorem n2 : (2 : Int32).toNatClampNeg = 2 := by decide
theorem n3 : (3 : Int32).toNatClampNeg = 3 := by decide
theorem n4 : (4 : Int32).toNatClampNeg = 4 := by decide
theorem n5 : (5 : Int32).toNatClampNeg = 5 := by decide
theorem n6 : (6 : Int32).toNatClampNeg = 6 := by decide
theorem n0 : (0 : Int32).toNatClampNeg = 0 := by decide
theorem n7 : Int32.ofNat 7 = 7 := by decide
set_option maxRecDepth 8000 in
theorem p_head (L : Nat) (xs : Nat → Int32) (n : Nat) : x_go (q_kL L xs) (x_call x_tb 400 8) (n + 13) 0 ([(0, .ref 0)], [], []) = x_go (q_kL L xs) (x_call x_tb 400 8) n 23 ([(4, .int 0), (3, .ref 53), (2, .ref 28), (1, .ref 1), (0, .ref 0)], [], p_H0) := by
  have e1 := p_new
  have e2 := p_newM
  simp [x_go, x_st, x_ldi, x_lda, x_sti, x_sta, x_lk, x_keep, lv_args, x_push, x_bin, x_div, x_un, x_dup, x_pop, x_dup2, x_goto, x_ifeq, x_ifne, x_iflt, x_ifge, x_ifgt, x_ifle, x_iceq, x_icne, x_iclt, x_icge, x_icgt, x_icle, x_ifnull, x_ifnonnull, x_tsw, x_iinc, x_gf, x_pf, x_ald, x_ast, x_ix, x_aln, x_cl_, x_cv, x_cs, x_rc, x_r0, x_isT, x_oi, x_rv, x_ri, x_ra, x_nw_, x_na, x_thr, narrow, fits, Value.category, x_sln, x_sld, x_nal, -List.getElem?_eq_getElem, -getElem?_pos, fL_0, fL_3, fL_4, fL_7, fL_8, fL_11, fL_12, fL_15, fL_16, fL_17, fL_19, fL_20, fL_21, e1, e2, p_HAl, p_HBl, p_HBe, n1]
set_option maxRecDepth 8000 in
theorem p_out (L : Nat) (xs : Nat → Int32) (n : Nat) (hx : Int32.ofNat L - 7 < 0) (h : xH) : x_go (q_kL L xs) (x_call x_tb 400 8) (n + 8) 23 ([(4, .int 0), (3, .ref 53), (2, .ref 28), (1, .ref 1), (0, .ref 0)], [], h) = some (some (.int 1), h) := by
  simp [x_go, x_st, x_ldi, x_lda, x_sti, x_sta, x_lk, x_keep, lv_args, x_push, x_bin, x_div, x_un, x_dup, x_pop, x_dup2, x_goto, x_ifeq, x_ifne, x_iflt, x_ifge, x_ifgt, x_ifle, x_iceq, x_icne, x_iclt, x_icge, x_icgt, x_icle, x_ifnull, x_ifnonnull, x_tsw, x_iinc, x_gf, x_pf, x_ald, x_ast, x_ix, x_aln, x_cl_, x_cv, x_cs, x_rc, x_r0, x_isT, x_oi, x_rv, x_ri, x_ra, x_nw_, x_na, x_thr, narrow, fits, Value.category, x_sln, x_sld, x_nal, -List.getElem?_eq_getElem, -getElem?_pos, fL_23, fL_25, fL_26, fL_27, fL_29, fL_30, fL_529, fL_530, hx]
set_option maxRecDepth 8000 in
theorem p_in (xs : Nat → Int32) (n : Nat) : x_go (q_kL 7 xs) (x_call x_tb 400 8) (n + 11) 23 ([(4, .int 0), (3, .ref 53), (2, .ref 28), (1, .ref 1), (0, .ref 0)], [], p_H0) = x_go (q_kL 7 xs) (x_call x_tb 400 8) n 40 ([(4, .int 0), (3, .ref 53), (2, .ref 28), (1, .ref 1), (0, .ref 0)], [.int (xs 0 &&& 15)], p_H0) := by
  simp [x_go, x_st, x_ldi, x_lda, x_sti, x_sta, x_lk, x_keep, lv_args, x_push, x_bin, x_div, x_un, x_dup, x_pop, x_dup2, x_goto, x_ifeq, x_ifne, x_iflt, x_ifge, x_ifgt, x_ifle, x_iceq, x_icne, x_iclt, x_icge, x_icgt, x_icle, x_ifnull, x_ifnonnull, x_tsw, x_iinc, x_gf, x_pf, x_ald, x_ast, x_ix, x_aln, x_cl_, x_cv, x_cs, x_rc, x_r0, x_isT, x_oi, x_rv, x_ri, x_ra, x_nw_, x_na, x_thr, narrow, fits, Value.category, x_sln, x_sld, x_nal, -List.getElem?_eq_getElem, -getElem?_pos, fL_23, fL_25, fL_26, fL_27, fL_29, fL_30, fL_33, fL_34, fL_36, fL_37, fL_39, n0, n7]
