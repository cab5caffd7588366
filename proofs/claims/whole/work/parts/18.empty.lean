def x_dO : DecidableEq (Option xC) := fun a b => match a, b with
  | none, none => isTrue rfl
  | some x, some y => (match x_dC x y with
    | isTrue h => isTrue (congrArg some h)
    | isFalse h => isFalse (fun e => h (Option.some.inj e)))
  | none, some _ => isFalse (fun h => by cases h)
  | some _, none => isFalse (fun h => by cases h)
theorem x_runC {a b : Option xC} (h : @decide (a = b) (x_dO a b) = true) : a = b := @of_decide_eq_true _ (x_dO a b) h
theorem e85 (d : Nat) (h : xH) (r : Int32) : ∃ b : Int32, x_call x_tb 400 (d + 1) 85 [.int r] h = some (some (.int b), h) := by
  by_cases h1 : r = 0
  · refine ⟨1, ?_⟩
    refine x_callE (cd := q_k85) (mL := 1) rfl (by simp [lg_sl, Value.category]) ?_ x_le.rf
    simp [x_go, x_fetch, x_st, x_ldi, x_lda, x_sti, x_sta, x_lk, x_keep, lv_args, x_push, x_bin, x_div, x_un, x_dup, x_pop, x_dup2, x_goto, x_ifeq, x_ifne, x_iflt, x_ifge, x_ifgt, x_ifle, x_iceq, x_icne, x_iclt, x_icge, x_icgt, x_icle, x_ifnull, x_ifnonnull, x_tsw, x_iinc, x_gf, x_pf, x_ald, x_ast, x_ix, x_aln, x_cl_, x_cv, x_cs, x_rc, x_r0, x_isT, x_oi, x_rv, x_ri, x_ra, x_nw_, x_na, x_thr, narrow, fits, Value.category, q_k85, q_k85_0, h1]
  · by_cases h2 : r = 3
    · refine ⟨1, ?_⟩
      refine x_callE (cd := q_k85) (mL := 1) rfl (by simp [lg_sl, Value.category]) ?_ x_le.rf
      simp [x_go, x_fetch, x_st, x_ldi, x_lda, x_sti, x_sta, x_lk, x_keep, lv_args, x_push, x_bin, x_div, x_un, x_dup, x_pop, x_dup2, x_goto, x_ifeq, x_ifne, x_iflt, x_ifge, x_ifgt, x_ifle, x_iceq, x_icne, x_iclt, x_icge, x_icgt, x_icle, x_ifnull, x_ifnonnull, x_tsw, x_iinc, x_gf, x_pf, x_ald, x_ast, x_ix, x_aln, x_cl_, x_cv, x_cs, x_rc, x_r0, x_isT, x_oi, x_rv, x_ri, x_ra, x_nw_, x_na, x_thr, narrow, fits, Value.category, q_k85, q_k85_0, h1, h2]
    · refine ⟨0, ?_⟩
      refine x_callE (cd := q_k85) (mL := 1) rfl (by simp [lg_sl, Value.category]) ?_ x_le.rf
      simp [x_go, x_fetch, x_st, x_ldi, x_lda, x_sti, x_sta, x_lk, x_keep, lv_args, x_push, x_bin, x_div, x_un, x_dup, x_pop, x_dup2, x_goto, x_ifeq, x_ifne, x_iflt, x_ifge, x_ifgt, x_ifle, x_iceq, x_icne, x_iclt, x_icge, x_icgt, x_icle, x_ifnull, x_ifnonnull, x_tsw, x_iinc, x_gf, x_pf, x_ald, x_ast, x_ix, x_aln, x_cl_, x_cv, x_cs, x_rc, x_r0, x_isT, x_oi, x_rv, x_ri, x_ra, x_nw_, x_na, x_thr, narrow, fits, Value.category, q_k85, q_k85_0, h1, h2]
theorem e83 (d : Nat) (h : xH) (a : Nat) (fs : List Value) (hO : h[a]? = some (.inr (0, fs))) (hc : fs[2]? = some (.int 0)) (r i k j l p : Int32) : x_call x_tb 400 (d + 2) 83 [.ref (a + 1), .int r, .int i, .int k, .int j, .int l, .int p] h = some (some (.int (-4)), h) := by
  obtain ⟨b, hb⟩ := e85 d h r
  have e1 := e81 d h a fs hO hc i
  have e2 := e81 d h a fs hO hc j
  refine x_callE (cd := q_k83) (mL := 11) rfl (by simp [lg_sl, Value.category]) ?_ x_le.rf
  by_cases h1 : b = 0
  · simp [x_go, x_fetch, x_st, x_ldi, x_lda, x_sti, x_sta, x_lk, x_keep, lv_args, x_push, x_bin, x_div, x_un, x_dup, x_pop, x_dup2, x_goto, x_ifeq, x_ifne, x_iflt, x_ifge, x_ifgt, x_ifle, x_iceq, x_icne, x_iclt, x_icge, x_icgt, x_icle, x_ifnull, x_ifnonnull, x_tsw, x_iinc, x_gf, x_pf, x_ald, x_ast, x_ix, x_aln, x_cl_, x_cv, x_cs, x_rc, x_r0, x_isT, x_oi, x_rv, x_ri, x_ra, x_nw_, x_na, x_thr, narrow, fits, Value.category, q_k83, q_k83_0, q_k83_1, q_k83_2, hO, hc, hb, e1, e2, h1]
  · simp [x_go, x_fetch, x_st, x_ldi, x_lda, x_sti, x_sta, x_lk, x_keep, lv_args, x_push, x_bin, x_div, x_un, x_dup, x_pop, x_dup2, x_goto, x_ifeq, x_ifne, x_iflt, x_ifge, x_ifgt, x_ifle, x_iceq, x_icne, x_iclt, x_icge, x_icgt, x_icle, x_ifnull, x_ifnonnull, x_tsw, x_iinc, x_gf, x_pf, x_ald, x_ast, x_ix, x_aln, x_cl_, x_cv, x_cs, x_rc, x_r0, x_isT, x_oi, x_rv, x_ri, x_ra, x_nw_, x_na, x_thr, narrow, fits, Value.category, q_k83, q_k83_0, q_k83_1, q_k83_2, hO, hc, hb, e1, e2, h1]
theorem e93 (d : Nat) (h : xH) (a : Nat) (fs : List Value) (hO : h[a]? = some (.inr (8, fs))) (hl : 1 < fs.length) (u v : Int32) : x_call x_tb 400 (d + 1) 93 [.ref (a + 1), .int u, .int v] h = some (some (.int 0), h.set a (.inr (8, (fs.set 0 (.int u)).set 1 (.int v)))) := by
  refine x_callE (cd := q_k93) (mL := 3) rfl (by simp [lg_sl, Value.category]) ?_ (by have s := x_sl_set (c := .inr (8, (fs.set 0 (.int u)).set 1 (.int v))) hO (by simp [x_c1]); exact ⟨by simp, by rw [s]; exact Nat.le_refl _⟩)
  have hl0 : 0 < fs.length := by omega
  have gs : ∀ c : xC, (h.set a c)[a]? = some c := fun c => List.getElem?_set_self (List.getElem?_eq_some_iff.mp hO).1
  simp [x_go, x_fetch, x_st, x_ldi, x_lda, x_sti, x_sta, x_lk, x_keep, lv_args, x_push, x_bin, x_div, x_un, x_dup, x_pop, x_dup2, x_goto, x_ifeq, x_ifne, x_iflt, x_ifge, x_ifgt, x_ifle, x_iceq, x_icne, x_iclt, x_icge, x_icgt, x_icle, x_ifnull, x_ifnonnull, x_tsw, x_iinc, x_gf, x_pf, x_ald, x_ast, x_ix, x_aln, x_cl_, x_cv, x_cs, x_rc, x_r0, x_isT, x_oi, x_rv, x_ri, x_ra, x_nw_, x_na, x_thr, narrow, fits, Value.category, q_k93, q_k93_0, hO, hl, hl0, gs, List.set_set, -List.getElem?_eq_getElem, -getElem?_pos]
theorem f121_0 : x_fetch q_k121 0 = x_lda 1 0 := rfl
theorem f121_1 : x_fetch q_k121 1 = x_st (x_push 2 (.int (0))) := rfl
theorem f121_2 : x_fetch q_k121 2 = x_pf 5 8 0 (.int) := rfl
theorem f121_5 : x_fetch q_k121 5 = x_lda 6 0 := rfl
theorem f121_6 : x_fetch q_k121 6 = x_st (x_push 7 (.int (0))) := rfl
theorem f121_7 : x_fetch q_k121 7 = x_pf 10 8 1 (.int) := rfl
theorem f121_10 : x_fetch q_k121 10 = x_lda 11 0 := rfl
theorem f121_11 : x_fetch q_k121 11 = x_gf 14 8 2 := rfl
theorem f121_14 : x_fetch q_k121 14 = x_st (x_push 16 (.int (30))) := rfl
theorem f121_16 : x_fetch q_k121 16 = x_st (x_icne 23 19) := rfl
theorem f121_23 : x_fetch q_k121 23 = x_st (x_push 24 (.int (0))) := rfl
theorem f121_24 : x_fetch q_k121 24 = x_sti 26 7 := rfl
theorem f121_26 : x_fetch q_k121 26 = x_ldi 28 7 := rfl
theorem f121_28 : x_fetch q_k121 28 = x_st (x_ifne 51 31) := rfl
theorem f121_31 : x_fetch q_k121 31 = x_lda 32 0 := rfl
theorem f121_32 : x_fetch q_k121 32 = x_ldi 33 1 := rfl
theorem f121_33 : x_fetch q_k121 33 = x_ldi 34 2 := rfl
theorem f121_34 : x_fetch q_k121 34 = x_ldi 35 3 := rfl
theorem f121_35 : x_fetch q_k121 35 = x_ldi 37 4 := rfl
theorem f121_37 : x_fetch q_k121 37 = x_ldi 39 5 := rfl
theorem f121_39 : x_fetch q_k121 39 = x_ldi 41 6 := rfl
theorem f121_41 : x_fetch q_k121 41 = x_cv 44 120 7 8 := rfl
theorem f121_44 : x_fetch q_k121 44 = x_st (x_ifeq 51 47) := rfl
theorem f121_51 : x_fetch q_k121 51 = x_st (x_push 52 (.int (0))) := rfl
theorem f121_52 : x_fetch q_k121 52 = x_sti 54 8 := rfl
theorem f121_54 : x_fetch q_k121 54 = x_lda 55 0 := rfl
theorem f121_55 : x_fetch q_k121 55 = x_gf 58 8 13 := rfl
theorem f121_58 : x_fetch q_k121 58 = x_st (x_ifle 65 61) := rfl
theorem f121_65 : x_fetch q_k121 65 = x_st (x_push 66 (.int (0))) := rfl
theorem f121_66 : x_fetch q_k121 66 = x_sti 68 9 := rfl
theorem f121_68 : x_fetch q_k121 68 = x_ldi 70 8 := rfl
theorem f121_70 : x_fetch q_k121 70 = x_st (x_ifeq 85 73) := rfl
theorem f121_85 : x_fetch q_k121 85 = x_st (x_push 86 (.int (0))) := rfl
theorem f121_86 : x_fetch q_k121 86 = x_sti 88 10 := rfl
theorem f121_88 : x_fetch q_k121 88 = x_lda 89 0 := rfl
theorem f121_89 : x_fetch q_k121 89 = x_st (x_push 90 (.int (0))) := rfl
theorem f121_90 : x_fetch q_k121 90 = x_pf 93 8 13 (.int) := rfl
theorem f121_93 : x_fetch q_k121 93 = x_ldi 95 7 := rfl
theorem f121_95 : x_fetch q_k121 95 = x_st (x_ifeq 106 98) := rfl
theorem f121_106 : x_fetch q_k121 106 = x_ldi 108 8 := rfl
theorem f121_108 : x_fetch q_k121 108 = x_st (x_ifne 119 111) := rfl
theorem f121_111 : x_fetch q_k121 111 = x_lda 112 0 := rfl
theorem f121_112 : x_fetch q_k121 112 = x_st (x_push 113 (.int (2))) := rfl
theorem f121_113 : x_fetch q_k121 113 = x_st (x_push 115 (.int (-4))) := rfl
theorem f121_115 : x_fetch q_k121 115 = x_cv 118 93 3 8 := rfl
theorem f121_118 : x_fetch q_k121 118 = x_ri (.int) := rfl
set_option maxRecDepth 8000 in
theorem e121 (d : Nat) (h : xH) (a : Nat) (fs : List Value) (hO : h[a]? = some (.inr (8, fs))) (hc : fs[2]? = some (.int 0)) (hf : fs[0]? = some (.int 0)) (hw : fs[1]? = some (.int 0)) (hd : fs[13]? = some (.int 0)) (r i k j l p : Int32) : x_call x_tb 400 (d + 2) 121 [.ref (a + 1), .int r, .int i, .int k, .int j, .int l, .int p] h = some (some (.int 0), h.set a (.inr (8, (fs.set 0 (.int 2)).set 1 (.int (-4))))) := by
  have hl13 : 13 < fs.length := (List.getElem?_eq_some_iff.mp hd).1
  have hl0 : 0 < fs.length := by omega
  have hl1 : 1 < fs.length := by omega
  have hl2 : 2 < fs.length := by omega
  obtain ⟨_, hc1⟩ := List.getElem?_eq_some_iff.mp hc
  obtain ⟨_, hd1⟩ := List.getElem?_eq_some_iff.mp hd
  have s0 := x_same hf
  have s1 := x_same hw
  have s13 := x_same hd
  have sO := x_same hO
  have e1 := e120 d h a fs hO hc r i k j l p
  have e2 := e93 d h a fs hO hl1 2 (-4)
  refine x_callE (cd := q_k121) (mL := 14) rfl (by simp [lg_sl, Value.category]) ?_ (by have s := x_sl_set (c := .inr (8, (fs.set 0 (.int 2)).set 1 (.int (-4)))) hO (by simp [x_c1]); exact ⟨by simp, by rw [s]; exact Nat.le_refl _⟩)
  simp [x_go, x_st, x_ldi, x_lda, x_sti, x_sta, x_lk, x_keep, lv_args, x_push, x_bin, x_div, x_un, x_dup, x_pop, x_dup2, x_goto, x_ifeq, x_ifne, x_iflt, x_ifge, x_ifgt, x_ifle, x_iceq, x_icne, x_iclt, x_icge, x_icgt, x_icle, x_ifnull, x_ifnonnull, x_tsw, x_iinc, x_gf, x_pf, x_ald, x_ast, x_ix, x_aln, x_cl_, x_cv, x_cs, x_rc, x_r0, x_isT, x_oi, x_rv, x_ri, x_ra, x_nw_, x_na, x_thr, narrow, fits, Value.category, f121_0, f121_1, f121_2, f121_5, f121_6, f121_7, f121_10, f121_11, f121_14, f121_16, f121_23, f121_24, f121_26, f121_28, f121_31, f121_32, f121_33, f121_34, f121_35, f121_37, f121_39, f121_41, f121_44, f121_51, f121_52, f121_54, f121_55, f121_58, f121_65, f121_66, f121_68, f121_70, f121_85, f121_86, f121_88, f121_89, f121_90, f121_93, f121_95, f121_106, f121_108, f121_111, f121_112, f121_113, f121_115, f121_118, hO, hc, hc1, hd, hd1, hl0, hl1, hl2, hl13, s0, s1, s13, sO, e1, e2]
def p_H1 : xH := match x_call x_tb 400 6 82 [.ref 1] p_H0 with | some q => q.2 | none => []
theorem p_take : x_call x_tb 400 6 82 [.ref 1] p_H0 = some (none, p_H1) := x_run (by decide +kernel)
def p_f1 : List Value := [.ref 2, .ref 4, .int 0, .ref 5, .ref 8, .int 0, .int (-1), .ref 12, .ref 25, .int 0]
theorem p_H1o : p_H1[0]? = some (.inr (0, p_f1)) := x_runC (by decide +kernel)
def p_f2 : List Value := [.ref 2, .ref 4, .int 0, .ref 5, .ref 8, .int 0, .int (-1), .ref 12, .ref 25, .int (-4)]
def p_H2 : xH := p_H1.set 0 (.inr (0, p_f2)) ++ [.inr (11, List.replicate 6 .null)]
theorem p_f12 : p_f1.set 9 (.int (-4)) = p_f2 := rfl
theorem p_o0 : p_H0[0]? = some (.inr (0, [.ref 2, .ref 4, .int 0, .ref 5, .ref 8, .int 0, .int 0, .ref 12, .ref 25, .int 0])) := rfl
theorem p_H2e : p_H1.set 0 (.inr (0, p_f2)) ++ [.inr (11, List.replicate 6 .null)] = p_H2 := rfl
theorem p_H1s : (p_H1.set 0 (.inr (0, p_f2)))[0]? = some (.inr (0, p_f2)) := x_runC (by decide +kernel)
theorem p_le2 : x_le p_H0 p_H2 := ⟨by decide +kernel, by decide +kernel⟩
theorem p_len2 : p_H2.length = 54 := by decide +kernel
theorem p_last2 : p_H2[53]? = some (.inr (11, List.replicate 6 .null)) := x_runC (by decide +kernel)
theorem e70 (r i k j l p : Int32) : x_call x_tb 400 7 70 [.ref 1, .int r, .int i, .int k, .int j, .int l, .int p] p_H0 = some (some (.retAddr 11), p_H2) := by
  refine x_callE (cd := q_k70) (mL := 7) rfl (by simp [lg_sl, Value.category]) ?_ p_le2
  have e : x_call x_tb 400 6 83 [.ref 1, .int r, .int i, .int k, .int j, .int l, .int p] p_H1 = some (some (.int (-4)), p_H1) := e83 4 p_H1 0 p_f1 p_H1o rfl r i k j l p
  have f9 : p_f1.length = 10 := rfl
  have g9 : p_f2[9]? = some (.int (-4)) := rfl
  have r6 : List.replicate 6 Value.null = [.null, .null, .null, .null, .null, .null] := rfl
  simp [x_go, x_fetch, x_st, x_ldi, x_lda, x_sti, x_sta, x_lk, x_keep, lv_args, x_push, x_bin, x_div, x_un, x_dup, x_pop, x_dup2, x_goto, x_ifeq, x_ifne, x_iflt, x_ifge, x_ifgt, x_ifle, x_iceq, x_icne, x_iclt, x_icge, x_icgt, x_icle, x_ifnull, x_ifnonnull, x_tsw, x_iinc, x_gf, x_pf, x_ald, x_ast, x_ix, x_aln, x_cl_, x_cv, x_cs, x_rc, x_r0, x_isT, x_oi, x_rv, x_ri, x_ra, x_nw_, x_na, x_thr, narrow, fits, Value.category, q_k70, q_k70_0, q_k70_1, p_o0, p_take, p_H1o, e, p_f12, f9, g9, p_H1s, p_H2e]
  rfl
theorem f147_0 : x_fetch q_k147 0 = x_lda 2 7 := rfl
theorem f147_2 : x_fetch q_k147 2 = x_st (x_push 3 (.int (0))) := rfl
theorem f147_3 : x_fetch q_k147 3 = x_lda 4 0 := rfl
theorem f147_4 : x_fetch q_k147 4 = x_ldi 5 1 := rfl
theorem f147_5 : x_fetch q_k147 5 = x_ldi 6 2 := rfl
theorem f147_6 : x_fetch q_k147 6 = x_ldi 7 3 := rfl
theorem f147_7 : x_fetch q_k147 7 = x_ldi 9 4 := rfl
theorem f147_9 : x_fetch q_k147 9 = x_ldi 11 5 := rfl
theorem f147_11 : x_fetch q_k147 11 = x_ldi 13 6 := rfl
theorem f147_13 : x_fetch q_k147 13 = x_ct 16 70 7 0 [(10, 21), (11, 25), (9, 29), (12, 33)] := rfl
theorem f147_25 : x_fetch q_k147 25 = x_sta 27 8 := rfl
theorem f147_27 : x_fetch q_k147 27 = x_st (x_push 28 (.int (2))) := rfl
theorem f147_28 : x_fetch q_k147 28 = x_ri (.int) := rfl
set_option maxRecDepth 8000 in
theorem e147 (r i k j l p : Int32) : x_call x_tb 400 8 147 [.ref 1, .int r, .int i, .int k, .int j, .int l, .int p, .ref 53] p_H0 = some (some (.int 2), p_H2) := by
  refine x_callE (cd := q_k147) (mL := 9) rfl (by simp [lg_sl, Value.category]) ?_ p_le2
  have e := e70 r i k j l p
  simp [x_go, x_st, x_ldi, x_lda, x_sti, x_sta, x_lk, x_keep, lv_args, x_push, x_bin, x_div, x_un, x_dup, x_pop, x_dup2, x_goto, x_ifeq, x_ifne, x_iflt, x_ifge, x_ifgt, x_ifle, x_iceq, x_icne, x_iclt, x_icge, x_icgt, x_icle, x_ifnull, x_ifnonnull, x_tsw, x_iinc, x_gf, x_pf, x_ald, x_ast, x_ix, x_aln, x_cl_, x_cv, x_cs, x_rc, x_r0, x_isT, x_oi, x_rv, x_ri, x_ra, x_nw_, x_na, x_thr, narrow, fits, Value.category, f147_0, f147_2, f147_3, f147_4, f147_5, f147_6, f147_7, f147_9, f147_11, f147_13, f147_25, f147_27, f147_28, x_ct, x_lkN, p_o0, e, p_len2, p_last2, -List.getElem?_eq_getElem, -getElem?_pos]
def p_fm : List Value := [.int 0, .int 0, .int 0, .ref 29, .ref 30, .ref 31, .ref 32, .ref 33, .ref 34, .ref 35, .ref 36, .ref 37, .ref 38, .int 0, .int 0, .int 0, .int 0, .ref 39, .ref 40, .ref 41, .ref 42, .int 0, .int 0, .int 0, .int 0, .ref 43, .ref 44, .ref 45, .int 0, .ref 46, .ref 47, .ref 48, .ref 49, .ref 50, .ref 51, .ref 52, .int 0, .int 0, .int 0]
theorem p_m2 : p_H2[27]? = some (.inr (8, p_fm)) := x_runC (by decide +kernel)
theorem p_m0 : p_H0[27]? = some (.inr (8, p_fm)) := rfl
def p_H3 : xH := p_H2.set 27 (.inr (8, (p_fm.set 0 (.int 2)).set 1 (.int (-4))))
theorem p_m3 : p_H3[27]? = some (.inr (8, (p_fm.set 0 (.int 2)).set 1 (.int (-4)))) := x_runC (by decide +kernel)
theorem p_121 (r i k j l p : Int32) : x_call x_tb 400 8 121 [.ref 28, .int r, .int i, .int k, .int j, .int l, .int p] p_H2 = some (some (.int 0), p_H3) := e121 6 p_H2 27 p_fm p_m2 rfl rfl rfl rfl r i k j l p
theorem p_thr3 : x_call x_tb 400 8 92 [.ref 28] p_H3 = some (some (.int 2), p_H3) := x_run (by decide +kernel)
def p_G1 : xH := match x_call x_tb 400 8 146 [.ref 1, .ref 53] p_H0 with | some q => q.2 | none => []
theorem p_146 : x_call x_tb 400 8 146 [.ref 1, .ref 53] p_H0 = some (some (.int 1), p_G1) := x_run (by decide +kernel)
def p_G2 : xH := match x_call x_tb 400 8 108 [.ref 28] p_G1 with | some q => q.2 | none => []
theorem p_108 : x_call x_tb 400 8 108 [.ref 28] p_G1 = some (some (.int 0), p_G2) := x_run (by decide +kernel)
theorem p_thrG : x_call x_tb 400 8 92 [.ref 28] p_G2 = some (some (.int 1), p_G2) := x_run (by decide +kernel)
theorem p_G1m : ∃ fs, p_G1[27]? = some (.inr (8, fs)) := ⟨_, x_runC (b := some (.inr (8, p_fm))) (by decide +kernel)⟩
theorem p_71 : x_call x_tb 400 8 71 [.ref 1] p_H0 = some (some (.int 0), p_H0) := x_run (by decide +kernel)
theorem p_132 : x_call x_tb 400 8 132 [.ref 28] p_H0 = some (some (.int 0), p_H0) := x_run (by decide +kernel)
theorem p_72 : x_call x_tb 400 8 72 [.ref 1] p_H0 = some (some (.int 0), p_H0) := x_run (by decide +kernel)
theorem p_133 : x_call x_tb 400 8 133 [.ref 28] p_H0 = some (some (.int 0), p_H0) := x_run (by decide +kernel)
theorem p_78 : x_call x_tb 400 8 78 [.ref 1] p_H0 = some (some (.int (-1)), p_H0) := x_run (by decide +kernel)
theorem p_143 : x_call x_tb 400 8 143 [.ref 28] p_H0 = some (some (.int (-1)), p_H0) := x_run (by decide +kernel)
theorem p_80 : x_call x_tb 400 8 80 [.ref 1] p_H0 = some (some (.int 0), p_H0) := x_run (by decide +kernel)
theorem p_145 : x_call x_tb 400 8 145 [.ref 28] p_H0 = some (some (.int 0), p_H0) := x_run (by decide +kernel)
