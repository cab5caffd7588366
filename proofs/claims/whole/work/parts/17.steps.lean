theorem x_callE {tb : Nat → Option (List (Nat × xO) × Nat)} {F d M mL : Nat} {cd : List (Nat × xO)} {as : List Value} {h h' : xH} {v : Option Value} (ht : tb M = some (cd, mL)) (hl : (lg_sl as).length ≤ mL) (hg : x_go cd (x_call tb F d) F 0 (lv_args 0 as, [], h) = some (v, h')) (hle : x_le h h') : x_call tb F (d + 1) M as h = some (v, h') := by
  unfold x_call
  rw [ht]
  dsimp only
  rw [if_pos hl, hg]
  unfold x_grew
  exact if_pos hle
theorem e81 (d : Nat) (h : xH) (a : Nat) (fs : List Value) (hO : h[a]? = some (.inr (0, fs))) (hc : fs[2]? = some (.int 0)) (k : Int32) : x_call x_tb 400 (d + 1) 81 [.ref (a + 1), .int k] h = some (some .null, h) := by
  refine x_callE (cd := q_k81) (mL := 2) rfl (by simp [lg_sl, Value.category]) ?_ x_le.rf
  by_cases h1 : k < 0
  · simp [x_go, x_fetch, x_st, x_ldi, x_lda, x_sti, x_sta, x_lk, x_keep, lv_args, x_push, x_bin, x_div, x_un, x_dup, x_pop, x_dup2, x_goto, x_ifeq, x_ifne, x_iflt, x_ifge, x_ifgt, x_ifle, x_iceq, x_icne, x_iclt, x_icge, x_icgt, x_icle, x_ifnull, x_ifnonnull, x_tsw, x_iinc, x_gf, x_pf, x_ald, x_ast, x_ix, x_aln, x_cl_, x_cv, x_cs, x_rc, x_r0, x_isT, x_oi, x_rv, x_ri, x_ra, x_nw_, x_na, x_thr, narrow, fits, Value.category, q_k81, q_k81_0, hO, hc, h1]
  · have h2 : (0 : Int32) ≤ k := Int32.not_lt.mp h1
    simp [x_go, x_fetch, x_st, x_ldi, x_lda, x_sti, x_sta, x_lk, x_keep, lv_args, x_push, x_bin, x_div, x_un, x_dup, x_pop, x_dup2, x_goto, x_ifeq, x_ifne, x_iflt, x_ifge, x_ifgt, x_ifle, x_iceq, x_icne, x_iclt, x_icge, x_icgt, x_icle, x_ifnull, x_ifnonnull, x_tsw, x_iinc, x_gf, x_pf, x_ald, x_ast, x_ix, x_aln, x_cl_, x_cv, x_cs, x_rc, x_r0, x_isT, x_oi, x_rv, x_ri, x_ra, x_nw_, x_na, x_thr, narrow, fits, Value.category, q_k81, q_k81_0, hO, hc, h1, h2]
theorem e73 (d : Nat) (h : xH) (a : Nat) (fs : List Value) (hO : h[a]? = some (.inr (0, fs))) (hc : fs[2]? = some (.int 0)) (k : Int32) : x_call x_tb 400 (d + 2) 73 [.ref (a + 1), .int k] h = some (some (.int (-1)), h) := by
  refine x_callE (cd := q_k73) (mL := 3) rfl (by simp [lg_sl, Value.category]) ?_ x_le.rf
  have e := e81 d h a fs hO hc k
  simp [x_go, x_fetch, x_st, x_ldi, x_lda, x_sti, x_sta, x_lk, x_keep, lv_args, x_push, x_bin, x_div, x_un, x_dup, x_pop, x_dup2, x_goto, x_ifeq, x_ifne, x_iflt, x_ifge, x_ifgt, x_ifle, x_iceq, x_icne, x_iclt, x_icge, x_icgt, x_icle, x_ifnull, x_ifnonnull, x_tsw, x_iinc, x_gf, x_pf, x_ald, x_ast, x_ix, x_aln, x_cl_, x_cv, x_cs, x_rc, x_r0, x_isT, x_oi, x_rv, x_ri, x_ra, x_nw_, x_na, x_thr, narrow, fits, Value.category, q_k73, q_k73_0, hO, hc, e]
theorem e74 (d : Nat) (h : xH) (a : Nat) (fs : List Value) (hO : h[a]? = some (.inr (0, fs))) (hc : fs[2]? = some (.int 0)) (k : Int32) : x_call x_tb 400 (d + 2) 74 [.ref (a + 1), .int k] h = some (some (.int (-1)), h) := by
  refine x_callE (cd := q_k74) (mL := 3) rfl (by simp [lg_sl, Value.category]) ?_ x_le.rf
  have e := e81 d h a fs hO hc k
  simp [x_go, x_fetch, x_st, x_ldi, x_lda, x_sti, x_sta, x_lk, x_keep, lv_args, x_push, x_bin, x_div, x_un, x_dup, x_pop, x_dup2, x_goto, x_ifeq, x_ifne, x_iflt, x_ifge, x_ifgt, x_ifle, x_iceq, x_icne, x_iclt, x_icge, x_icgt, x_icle, x_ifnull, x_ifnonnull, x_tsw, x_iinc, x_gf, x_pf, x_ald, x_ast, x_ix, x_aln, x_cl_, x_cv, x_cs, x_rc, x_r0, x_isT, x_oi, x_rv, x_ri, x_ra, x_nw_, x_na, x_thr, narrow, fits, Value.category, q_k74, q_k74_0, hO, hc, e]
theorem e76 (d : Nat) (h : xH) (a : Nat) (fs : List Value) (hO : h[a]? = some (.inr (0, fs))) (hc : fs[2]? = some (.int 0)) (k : Int32) : x_call x_tb 400 (d + 2) 76 [.ref (a + 1), .int k] h = some (some (.int (-1)), h) := by
  refine x_callE (cd := q_k76) (mL := 3) rfl (by simp [lg_sl, Value.category]) ?_ x_le.rf
  have e := e81 d h a fs hO hc k
  simp [x_go, x_fetch, x_st, x_ldi, x_lda, x_sti, x_sta, x_lk, x_keep, lv_args, x_push, x_bin, x_div, x_un, x_dup, x_pop, x_dup2, x_goto, x_ifeq, x_ifne, x_iflt, x_ifge, x_ifgt, x_ifle, x_iceq, x_icne, x_iclt, x_icge, x_icgt, x_icle, x_ifnull, x_ifnonnull, x_tsw, x_iinc, x_gf, x_pf, x_ald, x_ast, x_ix, x_aln, x_cl_, x_cv, x_cs, x_rc, x_r0, x_isT, x_oi, x_rv, x_ri, x_ra, x_nw_, x_na, x_thr, narrow, fits, Value.category, q_k76, q_k76_0, hO, hc, e]
theorem e79 (d : Nat) (h : xH) (a : Nat) (fs : List Value) (hO : h[a]? = some (.inr (0, fs))) (hc : fs[2]? = some (.int 0)) (k : Int32) : x_call x_tb 400 (d + 2) 79 [.ref (a + 1), .int k] h = some (some (.int 0), h) := by
  refine x_callE (cd := q_k79) (mL := 3) rfl (by simp [lg_sl, Value.category]) ?_ x_le.rf
  have e := e81 d h a fs hO hc k
  simp [x_go, x_fetch, x_st, x_ldi, x_lda, x_sti, x_sta, x_lk, x_keep, lv_args, x_push, x_bin, x_div, x_un, x_dup, x_pop, x_dup2, x_goto, x_ifeq, x_ifne, x_iflt, x_ifge, x_ifgt, x_ifle, x_iceq, x_icne, x_iclt, x_icge, x_icgt, x_icle, x_ifnull, x_ifnonnull, x_tsw, x_iinc, x_gf, x_pf, x_ald, x_ast, x_ix, x_aln, x_cl_, x_cv, x_cs, x_rc, x_r0, x_isT, x_oi, x_rv, x_ri, x_ra, x_nw_, x_na, x_thr, narrow, fits, Value.category, q_k79, q_k79_0, hO, hc, e]
theorem e75 (d : Nat) (h : xH) (a : Nat) (fs : List Value) (hO : h[a]? = some (.inr (0, fs))) (hc : fs[2]? = some (.int 0)) (k j : Int32) : x_call x_tb 400 (d + 2) 75 [.ref (a + 1), .int k, .int j] h = some (some (.int (-1)), h) := by
  refine x_callE (cd := q_k75) (mL := 4) rfl (by simp [lg_sl, Value.category]) ?_ x_le.rf
  have e := e81 d h a fs hO hc k
  simp [x_go, x_fetch, x_st, x_ldi, x_lda, x_sti, x_sta, x_lk, x_keep, lv_args, x_push, x_bin, x_div, x_un, x_dup, x_pop, x_dup2, x_goto, x_ifeq, x_ifne, x_iflt, x_ifge, x_ifgt, x_ifle, x_iceq, x_icne, x_iclt, x_icge, x_icgt, x_icle, x_ifnull, x_ifnonnull, x_tsw, x_iinc, x_gf, x_pf, x_ald, x_ast, x_ix, x_aln, x_cl_, x_cv, x_cs, x_rc, x_r0, x_isT, x_oi, x_rv, x_ri, x_ra, x_nw_, x_na, x_thr, narrow, fits, Value.category, q_k75, q_k75_0, hO, hc, e]
theorem e77 (d : Nat) (h : xH) (a : Nat) (fs : List Value) (hO : h[a]? = some (.inr (0, fs))) (hc : fs[2]? = some (.int 0)) (k j : Int32) : x_call x_tb 400 (d + 2) 77 [.ref (a + 1), .int k, .int j] h = some (some (.int 0), h) := by
  refine x_callE (cd := q_k77) (mL := 4) rfl (by simp [lg_sl, Value.category]) ?_ x_le.rf
  have e := e81 d h a fs hO hc k
  simp [x_go, x_fetch, x_st, x_ldi, x_lda, x_sti, x_sta, x_lk, x_keep, lv_args, x_push, x_bin, x_div, x_un, x_dup, x_pop, x_dup2, x_goto, x_ifeq, x_ifne, x_iflt, x_ifge, x_ifgt, x_ifle, x_iceq, x_icne, x_iclt, x_icge, x_icgt, x_icle, x_ifnull, x_ifnonnull, x_tsw, x_iinc, x_gf, x_pf, x_ald, x_ast, x_ix, x_aln, x_cl_, x_cv, x_cs, x_rc, x_r0, x_isT, x_oi, x_rv, x_ri, x_ra, x_nw_, x_na, x_thr, narrow, fits, Value.category, q_k77, q_k77_0, hO, hc, e]
theorem x_same {α : Type} {h : List α} {a : Nat} {c : α} (hO : h[a]? = some c) : h.set a c = h := by
  apply List.ext_getElem?
  intro j
  rw [List.getElem?_set]
  split
  · next e =>
    subst e
    split
    · exact hO.symm
    · next hn => exact absurd (List.getElem?_eq_some_iff.mp hO).1 hn
  · rfl
theorem e134 (d : Nat) (h : xH) (a : Nat) (fs : List Value) (hO : h[a]? = some (.inr (8, fs))) (hc : fs[2]? = some (.int 0)) (k : Int32) : x_call x_tb 400 (d + 1) 134 [.ref (a + 1), .int k] h = some (some (.int 0), h) := by
  refine x_callE (cd := q_k134) (mL := 2) rfl (by simp [lg_sl, Value.category]) ?_ x_le.rf
  by_cases h1 : k < 0
  · simp [x_go, x_fetch, x_st, x_ldi, x_lda, x_sti, x_sta, x_lk, x_keep, lv_args, x_push, x_bin, x_div, x_un, x_dup, x_pop, x_dup2, x_goto, x_ifeq, x_ifne, x_iflt, x_ifge, x_ifgt, x_ifle, x_iceq, x_icne, x_iclt, x_icge, x_icgt, x_icle, x_ifnull, x_ifnonnull, x_tsw, x_iinc, x_gf, x_pf, x_ald, x_ast, x_ix, x_aln, x_cl_, x_cv, x_cs, x_rc, x_r0, x_isT, x_oi, x_rv, x_ri, x_ra, x_nw_, x_na, x_thr, narrow, fits, Value.category, q_k134, q_k134_0, hO, hc, h1]
  · have h2 : (0 : Int32) ≤ k := Int32.not_lt.mp h1
    simp [x_go, x_fetch, x_st, x_ldi, x_lda, x_sti, x_sta, x_lk, x_keep, lv_args, x_push, x_bin, x_div, x_un, x_dup, x_pop, x_dup2, x_goto, x_ifeq, x_ifne, x_iflt, x_ifge, x_ifgt, x_ifle, x_iceq, x_icne, x_iclt, x_icge, x_icgt, x_icle, x_ifnull, x_ifnonnull, x_tsw, x_iinc, x_gf, x_pf, x_ald, x_ast, x_ix, x_aln, x_cl_, x_cv, x_cs, x_rc, x_r0, x_isT, x_oi, x_rv, x_ri, x_ra, x_nw_, x_na, x_thr, narrow, fits, Value.category, q_k134, q_k134_0, hO, hc, h1, h2]
theorem e135 (d : Nat) (h : xH) (a : Nat) (fs : List Value) (hO : h[a]? = some (.inr (8, fs))) (hc : fs[2]? = some (.int 0)) (hf : fs[0]? = some (.int 0)) (k : Int32) : x_call x_tb 400 (d + 2) 135 [.ref (a + 1), .int k] h = some (some (.int (-1)), h) := by
  refine x_callE (cd := q_k135) (mL := 2) rfl (by simp [lg_sl, Value.category]) ?_ x_le.rf
  have hl : 0 < fs.length := (List.getElem?_eq_some_iff.mp hf).1
  have s1 := x_same hf
  have s2 := x_same hO
  have e := e134 d h a fs hO hc k
  simp [x_go, x_fetch, x_st, x_ldi, x_lda, x_sti, x_sta, x_lk, x_keep, lv_args, x_push, x_bin, x_div, x_un, x_dup, x_pop, x_dup2, x_goto, x_ifeq, x_ifne, x_iflt, x_ifge, x_ifgt, x_ifle, x_iceq, x_icne, x_iclt, x_icge, x_icgt, x_icle, x_ifnull, x_ifnonnull, x_tsw, x_iinc, x_gf, x_pf, x_ald, x_ast, x_ix, x_aln, x_cl_, x_cv, x_cs, x_rc, x_r0, x_isT, x_oi, x_rv, x_ri, x_ra, x_nw_, x_na, x_thr, narrow, fits, Value.category, q_k135, q_k135_0, hO, hc, hf, hl, s1, s2, e]
theorem e136 (d : Nat) (h : xH) (a : Nat) (fs : List Value) (hO : h[a]? = some (.inr (8, fs))) (hc : fs[2]? = some (.int 0)) (hf : fs[0]? = some (.int 0)) (k : Int32) : x_call x_tb 400 (d + 2) 136 [.ref (a + 1), .int k] h = some (some (.int (-1)), h) := by
  refine x_callE (cd := q_k136) (mL := 2) rfl (by simp [lg_sl, Value.category]) ?_ x_le.rf
  have hl : 0 < fs.length := (List.getElem?_eq_some_iff.mp hf).1
  have s1 := x_same hf
  have s2 := x_same hO
  have e := e134 d h a fs hO hc k
  simp [x_go, x_fetch, x_st, x_ldi, x_lda, x_sti, x_sta, x_lk, x_keep, lv_args, x_push, x_bin, x_div, x_un, x_dup, x_pop, x_dup2, x_goto, x_ifeq, x_ifne, x_iflt, x_ifge, x_ifgt, x_ifle, x_iceq, x_icne, x_iclt, x_icge, x_icgt, x_icle, x_ifnull, x_ifnonnull, x_tsw, x_iinc, x_gf, x_pf, x_ald, x_ast, x_ix, x_aln, x_cl_, x_cv, x_cs, x_rc, x_r0, x_isT, x_oi, x_rv, x_ri, x_ra, x_nw_, x_na, x_thr, narrow, fits, Value.category, q_k136, q_k136_0, hO, hc, hf, hl, s1, s2, e]
theorem e141 (d : Nat) (h : xH) (a : Nat) (fs : List Value) (hO : h[a]? = some (.inr (8, fs))) (hc : fs[2]? = some (.int 0)) (hf : fs[0]? = some (.int 0)) (k : Int32) : x_call x_tb 400 (d + 2) 141 [.ref (a + 1), .int k] h = some (some (.int (-1)), h) := by
  refine x_callE (cd := q_k141) (mL := 2) rfl (by simp [lg_sl, Value.category]) ?_ x_le.rf
  have hl : 0 < fs.length := (List.getElem?_eq_some_iff.mp hf).1
  have s1 := x_same hf
  have s2 := x_same hO
  have e := e134 d h a fs hO hc k
  simp [x_go, x_fetch, x_st, x_ldi, x_lda, x_sti, x_sta, x_lk, x_keep, lv_args, x_push, x_bin, x_div, x_un, x_dup, x_pop, x_dup2, x_goto, x_ifeq, x_ifne, x_iflt, x_ifge, x_ifgt, x_ifle, x_iceq, x_icne, x_iclt, x_icge, x_icgt, x_icle, x_ifnull, x_ifnonnull, x_tsw, x_iinc, x_gf, x_pf, x_ald, x_ast, x_ix, x_aln, x_cl_, x_cv, x_cs, x_rc, x_r0, x_isT, x_oi, x_rv, x_ri, x_ra, x_nw_, x_na, x_thr, narrow, fits, Value.category, q_k141, q_k141_0, hO, hc, hf, hl, s1, s2, e]
theorem e144 (d : Nat) (h : xH) (a : Nat) (fs : List Value) (hO : h[a]? = some (.inr (8, fs))) (hc : fs[2]? = some (.int 0)) (hf : fs[0]? = some (.int 0)) (k : Int32) : x_call x_tb 400 (d + 2) 144 [.ref (a + 1), .int k] h = some (some (.int 0), h) := by
  refine x_callE (cd := q_k144) (mL := 7) rfl (by simp [lg_sl, Value.category]) ?_ x_le.rf
  have hl : 0 < fs.length := (List.getElem?_eq_some_iff.mp hf).1
  have s1 := x_same hf
  have s2 := x_same hO
  have e := e134 d h a fs hO hc k
  simp [x_go, x_fetch, x_st, x_ldi, x_lda, x_sti, x_sta, x_lk, x_keep, lv_args, x_push, x_bin, x_div, x_un, x_dup, x_pop, x_dup2, x_goto, x_ifeq, x_ifne, x_iflt, x_ifge, x_ifgt, x_ifle, x_iceq, x_icne, x_iclt, x_icge, x_icgt, x_icle, x_ifnull, x_ifnonnull, x_tsw, x_iinc, x_gf, x_pf, x_ald, x_ast, x_ix, x_aln, x_cl_, x_cv, x_cs, x_rc, x_r0, x_isT, x_oi, x_rv, x_ri, x_ra, x_nw_, x_na, x_thr, narrow, fits, Value.category, q_k144, q_k144_0, q_k144_1, q_k144_2, q_k144_3, hO, hc, hf, hl, s1, s2, e]
theorem e140 (d : Nat) (h : xH) (a : Nat) (fs : List Value) (hO : h[a]? = some (.inr (8, fs))) (hc : fs[2]? = some (.int 0)) (hf : fs[0]? = some (.int 0)) (k j : Int32) : x_call x_tb 400 (d + 2) 140 [.ref (a + 1), .int k, .int j] h = some (some (.int (-1)), h) := by
  refine x_callE (cd := q_k140) (mL := 7) rfl (by simp [lg_sl, Value.category]) ?_ x_le.rf
  have hl : 0 < fs.length := (List.getElem?_eq_some_iff.mp hf).1
  have s1 := x_same hf
  have s2 := x_same hO
  have e := e134 d h a fs hO hc k
  simp [x_go, x_fetch, x_st, x_ldi, x_lda, x_sti, x_sta, x_lk, x_keep, lv_args, x_push, x_bin, x_div, x_un, x_dup, x_pop, x_dup2, x_goto, x_ifeq, x_ifne, x_iflt, x_ifge, x_ifgt, x_ifle, x_iceq, x_icne, x_iclt, x_icge, x_icgt, x_icle, x_ifnull, x_ifnonnull, x_tsw, x_iinc, x_gf, x_pf, x_ald, x_ast, x_ix, x_aln, x_cl_, x_cv, x_cs, x_rc, x_r0, x_isT, x_oi, x_rv, x_ri, x_ra, x_nw_, x_na, x_thr, narrow, fits, Value.category, q_k140, q_k140_0, q_k140_1, q_k140_2, hO, hc, hf, hl, s1, s2, e]
theorem e142 (d : Nat) (h : xH) (a : Nat) (fs : List Value) (hO : h[a]? = some (.inr (8, fs))) (hc : fs[2]? = some (.int 0)) (hf : fs[0]? = some (.int 0)) (k j : Int32) : x_call x_tb 400 (d + 2) 142 [.ref (a + 1), .int k, .int j] h = some (some (.int 0), h) := by
  refine x_callE (cd := q_k142) (mL := 3) rfl (by simp [lg_sl, Value.category]) ?_ x_le.rf
  have hl : 0 < fs.length := (List.getElem?_eq_some_iff.mp hf).1
  have s1 := x_same hf
  have s2 := x_same hO
  have e := e134 d h a fs hO hc k
  simp [x_go, x_fetch, x_st, x_ldi, x_lda, x_sti, x_sta, x_lk, x_keep, lv_args, x_push, x_bin, x_div, x_un, x_dup, x_pop, x_dup2, x_goto, x_ifeq, x_ifne, x_iflt, x_ifge, x_ifgt, x_ifle, x_iceq, x_icne, x_iclt, x_icge, x_icgt, x_icle, x_ifnull, x_ifnonnull, x_tsw, x_iinc, x_gf, x_pf, x_ald, x_ast, x_ix, x_aln, x_cl_, x_cv, x_cs, x_rc, x_r0, x_isT, x_oi, x_rv, x_ri, x_ra, x_nw_, x_na, x_thr, narrow, fits, Value.category, q_k142, q_k142_0, hO, hc, hf, hl, s1, s2, e]
theorem e120 (d : Nat) (h : xH) (a : Nat) (fs : List Value) (hO : h[a]? = some (.inr (8, fs))) (hc : fs[2]? = some (.int 0)) (r i k j l p : Int32) : x_call x_tb 400 (d + 1) 120 [.ref (a + 1), .int r, .int i, .int k, .int j, .int l, .int p] h = some (some (.int 0), h) := by
  refine x_callE (cd := q_k120) (mL := 7) rfl (by simp [lg_sl, Value.category]) ?_ x_le.rf
  by_cases h1 : r < 0
  · simp [x_go, x_fetch, x_st, x_ldi, x_lda, x_sti, x_sta, x_lk, x_keep, lv_args, x_push, x_bin, x_div, x_un, x_dup, x_pop, x_dup2, x_goto, x_ifeq, x_ifne, x_iflt, x_ifge, x_ifgt, x_ifle, x_iceq, x_icne, x_iclt, x_icge, x_icgt, x_icle, x_ifnull, x_ifnonnull, x_tsw, x_iinc, x_gf, x_pf, x_ald, x_ast, x_ix, x_aln, x_cl_, x_cv, x_cs, x_rc, x_r0, x_isT, x_oi, x_rv, x_ri, x_ra, x_nw_, x_na, x_thr, narrow, fits, Value.category, q_k120, q_k120_0, q_k120_1, q_k120_2, hO, hc, h1]
  · by_cases h2 : (4 : Int32) < r
    · simp [x_go, x_fetch, x_st, x_ldi, x_lda, x_sti, x_sta, x_lk, x_keep, lv_args, x_push, x_bin, x_div, x_un, x_dup, x_pop, x_dup2, x_goto, x_ifeq, x_ifne, x_iflt, x_ifge, x_ifgt, x_ifle, x_iceq, x_icne, x_iclt, x_icge, x_icgt, x_icle, x_ifnull, x_ifnonnull, x_tsw, x_iinc, x_gf, x_pf, x_ald, x_ast, x_ix, x_aln, x_cl_, x_cv, x_cs, x_rc, x_r0, x_isT, x_oi, x_rv, x_ri, x_ra, x_nw_, x_na, x_thr, narrow, fits, Value.category, q_k120, q_k120_0, q_k120_1, q_k120_2, hO, hc, h1, h2]
    · by_cases h3 : i < 0
      · simp [x_go, x_fetch, x_st, x_ldi, x_lda, x_sti, x_sta, x_lk, x_keep, lv_args, x_push, x_bin, x_div, x_un, x_dup, x_pop, x_dup2, x_goto, x_ifeq, x_ifne, x_iflt, x_ifge, x_ifgt, x_ifle, x_iceq, x_icne, x_iclt, x_icge, x_icgt, x_icle, x_ifnull, x_ifnonnull, x_tsw, x_iinc, x_gf, x_pf, x_ald, x_ast, x_ix, x_aln, x_cl_, x_cv, x_cs, x_rc, x_r0, x_isT, x_oi, x_rv, x_ri, x_ra, x_nw_, x_na, x_thr, narrow, fits, Value.category, q_k120, q_k120_0, q_k120_1, q_k120_2, hO, hc, h1, h2, h3]
      · have h4 : (0 : Int32) ≤ i := Int32.not_lt.mp h3
        simp [x_go, x_fetch, x_st, x_ldi, x_lda, x_sti, x_sta, x_lk, x_keep, lv_args, x_push, x_bin, x_div, x_un, x_dup, x_pop, x_dup2, x_goto, x_ifeq, x_ifne, x_iflt, x_ifge, x_ifgt, x_ifle, x_iceq, x_icne, x_iclt, x_icge, x_icgt, x_icle, x_ifnull, x_ifnonnull, x_tsw, x_iinc, x_gf, x_pf, x_ald, x_ast, x_ix, x_aln, x_cl_, x_cv, x_cs, x_rc, x_r0, x_isT, x_oi, x_rv, x_ri, x_ra, x_nw_, x_na, x_thr, narrow, fits, Value.category, q_k120, q_k120_0, q_k120_1, q_k120_2, hO, hc, h1, h2, h3, h4, Int32.not_lt.mp h1, Int32.not_lt.mp h2]
theorem p_sl2 {h : xH} {i j : Nat} {c1 c2 c1' c2' : xC} (hij : i ≠ j) (h1 : h[i]? = some c1) (h2 : h[j]? = some c2) (e1 : x_c1 c1' = x_c1 c1) (e2 : x_c1 c2' = x_c1 c2) : x_le h ((h.set i c1').set j c2') ∧ ((h.set i c1').set j c2').length = h.length ∧ x_sl ((h.set i c1').set j c2') = x_sl h := by
  have h3 : (h.set i c1')[j]? = some c2 := by rw [List.getElem?_set_ne hij]; exact h2
  have s1 := x_sl_set (c := c1') h1 e1
  have s2 := x_sl_set (c := c2') h3 e2
  exact ⟨⟨by simp, by rw [s2, s1]; exact Nat.le_refl _⟩, by simp, by rw [s2, s1]⟩
theorem e27a (d : Nat) (h : xH) (c : Int32) (hD : h[1]? = some (.inr (3, [.ref 3, .int 0, .int 0]))) (hc : c < 32 ∨ 126 < c) : x_call x_tb 400 (d + 1) 27 [.ref 2, .int c] h = some (some (.int 0), h) := by
  refine x_callE (cd := q_k27) (mL := 2) rfl (by simp [lg_sl, Value.category]) ?_ x_le.rf
  by_cases h1 : c < 32
  · simp [x_go, x_fetch, x_st, x_ldi, x_lda, x_sti, x_sta, x_lk, x_keep, lv_args, x_push, x_bin, x_div, x_un, x_dup, x_pop, x_dup2, x_goto, x_ifeq, x_ifne, x_iflt, x_ifge, x_ifgt, x_ifle, x_iceq, x_icne, x_iclt, x_icge, x_icgt, x_icle, x_ifnull, x_ifnonnull, x_tsw, x_iinc, x_gf, x_pf, x_ald, x_ast, x_ix, x_aln, x_cl_, x_cv, x_cs, x_rc, x_r0, x_isT, x_oi, x_rv, x_ri, x_ra, x_nw_, x_na, x_thr, narrow, fits, Value.category, q_k27, q_k27_0, hD, h1]
  · have h2 : (126 : Int32) < c := hc.resolve_left h1
    have h3 : ¬ c ≤ 126 := Int32.not_le.mpr h2
    simp [x_go, x_fetch, x_st, x_ldi, x_lda, x_sti, x_sta, x_lk, x_keep, lv_args, x_push, x_bin, x_div, x_un, x_dup, x_pop, x_dup2, x_goto, x_ifeq, x_ifne, x_iflt, x_ifge, x_ifgt, x_ifle, x_iceq, x_icne, x_iclt, x_icge, x_icgt, x_icle, x_ifnull, x_ifnonnull, x_tsw, x_iinc, x_gf, x_pf, x_ald, x_ast, x_ix, x_aln, x_cl_, x_cv, x_cs, x_rc, x_r0, x_isT, x_oi, x_rv, x_ri, x_ra, x_nw_, x_na, x_thr, narrow, fits, Value.category, q_k27, q_k27_0, hD, h1, h3]
theorem e27b (d : Nat) (h : xH) (c : Int32) (hD : h[1]? = some (.inr (3, [.ref 3, .int 0, .int 0]))) (hT : h[2]? = some (.inl (2, .inl (List.replicate 60 0)))) (hc : ¬ (c < 32 ∨ 126 < c)) : x_call x_tb 400 (d + 1) 27 [.ref 2, .int c] h = some (some (.int 1), (h.set 2 (.inl (2, .inl ((List.replicate 60 0).set 0 (vp_nar .char c))))).set 1 (.inr (3, [.ref 3, .int 0, .int 1]))) := by
  refine x_callE (cd := q_k27) (mL := 2) rfl (by simp [lg_sl, Value.category]) ?_ (p_sl2 (c1' := .inl (2, .inl ((List.replicate 60 0).set 0 (vp_nar .char c)))) (c2' := .inr (3, [.ref 3, .int 0, .int 1])) (by decide) hT hD (by simp [x_c1]) rfl).1
  have h1 : ¬ c < 32 := fun q => hc (Or.inl q)
  have h3 : c ≤ 126 := Int32.not_lt.mp (fun q => hc (Or.inr q))
  simp [x_go, x_fetch, x_st, x_ldi, x_lda, x_sti, x_sta, x_lk, x_keep, lv_args, x_push, x_bin, x_div, x_un, x_dup, x_pop, x_dup2, x_goto, x_ifeq, x_ifne, x_iflt, x_ifge, x_ifgt, x_ifle, x_iceq, x_icne, x_iclt, x_icge, x_icgt, x_icle, x_ifnull, x_ifnonnull, x_tsw, x_iinc, x_gf, x_pf, x_ald, x_ast, x_ix, x_aln, x_cl_, x_cv, x_cs, x_rc, x_r0, x_isT, x_oi, x_rv, x_ri, x_ra, x_nw_, x_na, x_thr, narrow, fits, Value.category, q_k27, q_k27_0, hD, hT, h1, h3, List.getElem?_set]
theorem e68a (d : Nat) (h : xH) (c : Int32) (fs : List Value) (hO : h[0]? = some (.inr (0, fs))) (hf : fs[0]? = some (.ref 2)) (hD : h[1]? = some (.inr (3, [.ref 3, .int 0, .int 0]))) (hc : c < 32 ∨ 126 < c) : x_call x_tb 400 (d + 2) 68 [.ref 1, .int c] h = some (some (.int 0), h) := by
  refine x_callE (cd := q_k68) (mL := 2) rfl (by simp [lg_sl, Value.category]) ?_ x_le.rf
  have e := e27a d h c hD hc
  simp [x_go, x_fetch, x_st, x_ldi, x_lda, x_sti, x_sta, x_lk, x_keep, lv_args, x_push, x_bin, x_div, x_un, x_dup, x_pop, x_dup2, x_goto, x_ifeq, x_ifne, x_iflt, x_ifge, x_ifgt, x_ifle, x_iceq, x_icne, x_iclt, x_icge, x_icgt, x_icle, x_ifnull, x_ifnonnull, x_tsw, x_iinc, x_gf, x_pf, x_ald, x_ast, x_ix, x_aln, x_cl_, x_cv, x_cs, x_rc, x_r0, x_isT, x_oi, x_rv, x_ri, x_ra, x_nw_, x_na, x_thr, narrow, fits, Value.category, q_k68, q_k68_0, hO, hf, hD, e]
theorem e68b (d : Nat) (h : xH) (c : Int32) (fs : List Value) (hO : h[0]? = some (.inr (0, fs))) (hf : fs[0]? = some (.ref 2)) (hD : h[1]? = some (.inr (3, [.ref 3, .int 0, .int 0]))) (hT : h[2]? = some (.inl (2, .inl (List.replicate 60 0)))) (hc : ¬ (c < 32 ∨ 126 < c)) : x_call x_tb 400 (d + 2) 68 [.ref 1, .int c] h = some (some (.int 1), (h.set 2 (.inl (2, .inl ((List.replicate 60 0).set 0 (vp_nar .char c))))).set 1 (.inr (3, [.ref 3, .int 0, .int 1]))) := by
  refine x_callE (cd := q_k68) (mL := 2) rfl (by simp [lg_sl, Value.category]) ?_ (p_sl2 (c1' := .inl (2, .inl ((List.replicate 60 0).set 0 (vp_nar .char c)))) (c2' := .inr (3, [.ref 3, .int 0, .int 1])) (by decide) hT hD (by simp [x_c1]) rfl).1
  have e := e27b d h c hD hT hc
  simp [x_go, x_fetch, x_st, x_ldi, x_lda, x_sti, x_sta, x_lk, x_keep, lv_args, x_push, x_bin, x_div, x_un, x_dup, x_pop, x_dup2, x_goto, x_ifeq, x_ifne, x_iflt, x_ifge, x_ifgt, x_ifle, x_iceq, x_icne, x_iclt, x_icge, x_icgt, x_icle, x_ifnull, x_ifnonnull, x_tsw, x_iinc, x_gf, x_pf, x_ald, x_ast, x_ix, x_aln, x_cl_, x_cv, x_cs, x_rc, x_r0, x_isT, x_oi, x_rv, x_ri, x_ra, x_nw_, x_na, x_thr, narrow, fits, Value.category, q_k68, q_k68_0, hO, hf, hD, e]
theorem e94a (d : Nat) (h : xH) (c : Int32) (fs : List Value) (hO : h[27]? = some (.inr (8, fs))) (h0 : fs[0]? = some (.int 0)) (hd : fs[13]? = some (.int 0)) (hc : c < 32 ∨ 126 < c) : x_call x_tb 400 (d + 1) 94 [.ref 28, .int c] h = some (some (.int 0), h) := by
  refine x_callE (cd := q_k94) (mL := 2) rfl (by simp [lg_sl, Value.category]) ?_ x_le.rf
  have hl : 0 < fs.length := (List.getElem?_eq_some_iff.mp h0).1
  have s1 := x_same h0
  have s2 := x_same hO
  by_cases h1 : c < 32
  · simp [x_go, x_fetch, x_st, x_ldi, x_lda, x_sti, x_sta, x_lk, x_keep, lv_args, x_push, x_bin, x_div, x_un, x_dup, x_pop, x_dup2, x_goto, x_ifeq, x_ifne, x_iflt, x_ifge, x_ifgt, x_ifle, x_iceq, x_icne, x_iclt, x_icge, x_icgt, x_icle, x_ifnull, x_ifnonnull, x_tsw, x_iinc, x_gf, x_pf, x_ald, x_ast, x_ix, x_aln, x_cl_, x_cv, x_cs, x_rc, x_r0, x_isT, x_oi, x_rv, x_ri, x_ra, x_nw_, x_na, x_thr, narrow, fits, Value.category, q_k94, q_k94_0, hO, h0, hl, s1, s2, h1]
  · have h2 : (126 : Int32) < c := hc.resolve_left h1
    simp [x_go, x_fetch, x_st, x_ldi, x_lda, x_sti, x_sta, x_lk, x_keep, lv_args, x_push, x_bin, x_div, x_un, x_dup, x_pop, x_dup2, x_goto, x_ifeq, x_ifne, x_iflt, x_ifge, x_ifgt, x_ifle, x_iceq, x_icne, x_iclt, x_icge, x_icgt, x_icle, x_ifnull, x_ifnonnull, x_tsw, x_iinc, x_gf, x_pf, x_ald, x_ast, x_ix, x_aln, x_cl_, x_cv, x_cs, x_rc, x_r0, x_isT, x_oi, x_rv, x_ri, x_ra, x_nw_, x_na, x_thr, narrow, fits, Value.category, q_k94, q_k94_0, hO, h0, hl, s1, s2, h1, h2]
set_option maxRecDepth 8000 in
theorem e94b (d : Nat) (h : xH) (c : Int32) (fs : List Value) (hO : h[27]? = some (.inr (8, fs))) (h0 : fs[0]? = some (.int 0)) (hd : fs[13]? = some (.int 0)) (hr : fs[12]? = some (.ref 38)) (hT : h[37]? = some (.inl (2, .inl (List.replicate 60 0)))) (hc : ¬ (c < 32 ∨ 126 < c)) : x_call x_tb 400 (d + 1) 94 [.ref 28, .int c] h = some (some (.int 1), (h.set 37 (.inl (2, .inl ((List.replicate 60 0).set 0 (vp_nar .char c))))).set 27 (.inr (8, fs.set 13 (.int 1)))) := by
  refine x_callE (cd := q_k94) (mL := 2) rfl (by simp [lg_sl, Value.category]) ?_ (p_sl2 (c1' := .inl (2, .inl ((List.replicate 60 0).set 0 (vp_nar .char c)))) (c2' := .inr (8, fs.set 13 (.int 1))) (by decide) hT hO (by simp [x_c1]) (by simp [x_c1])).1
  have hl : 0 < fs.length := (List.getElem?_eq_some_iff.mp h0).1
  have hl2 : 13 < fs.length := (List.getElem?_eq_some_iff.mp hd).1
  have s1 := x_same h0
  have s2 := x_same hO
  have hl3 : 12 < fs.length := (List.getElem?_eq_some_iff.mp hr).1
  obtain ⟨_, hd1⟩ := List.getElem?_eq_some_iff.mp hd
  obtain ⟨_, hr1⟩ := List.getElem?_eq_some_iff.mp hr
  have h1 : ¬ c < 32 := fun q => hc (Or.inl q)
  have h2 : ¬ (126 : Int32) < c := fun q => hc (Or.inr q)
  simp [x_go, x_fetch, x_st, x_ldi, x_lda, x_sti, x_sta, x_lk, x_keep, lv_args, x_push, x_bin, x_div, x_un, x_dup, x_pop, x_dup2, x_goto, x_ifeq, x_ifne, x_iflt, x_ifge, x_ifgt, x_ifle, x_iceq, x_icne, x_iclt, x_icge, x_icgt, x_icle, x_ifnull, x_ifnonnull, x_tsw, x_iinc, x_gf, x_pf, x_ald, x_ast, x_ix, x_aln, x_cl_, x_cv, x_cs, x_rc, x_r0, x_isT, x_oi, x_rv, x_ri, x_ra, x_nw_, x_na, x_thr, narrow, fits, Value.category, q_k94, q_k94_0, hO, h0, hd, hr, hd1, hr1, hT, hl, hl2, hl3, s1, s2, h1, h2, List.getElem?_set]
