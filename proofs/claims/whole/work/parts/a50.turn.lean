/-! the law: one turn of its loop, the short calls -/

def LV (b : Nat) (i : Int) (lv : xL) : Prop := c1 lv ∧ x_lk lv 0 = some (.retAddr (b + 1)) ∧ x_lk lv 1 = some (.ref 3) ∧ x_lk lv 2 = some (.ref 30) ∧ x_lk lv 3 = some (.ref 55) ∧ x_lk lv 4 = some (.int (iZ i))
theorem LV.st {b : Nat} {i : Int} {lv : xL} (h : LV b i lv) {q : Nat} {v : Value} (hq : 4 < q) (hv : v.category = 1) : LV b i ((q, v) :: lv.filter (x_keep q)) := by
  obtain ⟨h1, h2, h3, h4, h5, h6⟩ := h
  refine ⟨c1_st hv h1, ?_, ?_, ?_, ?_, ?_⟩ <;> rw [lk_s h1, if_neg (by omega)] <;> assumption
def Nx (d b L : Nat) (xs : Nat → Int32) (i : Int) (pc : Nat) (lv : xL) (w : Nat → xC) (N : Nat) (Ds : List (List (Int × List Int) × Bool × Int × Int)) : Prop := ∃ (w' : Nat → xC) (N' : Nat) (lv' : xL) (Ds' : List (List (Int × List Int) × Bool × Int × Int)) (T' U' : List Int) (m' : Nat → Int) (x' : Nat → List Int), LV b i lv' ∧ IV w' N' Ds' T' U' m' x' ∧ N ≤ N' ∧ N' ≤ N + 1 + 206 * (Ds'.length - Ds.length) ∧ Ds.length ≤ Ds'.length ∧ ∀ r, Gx (q_kL b L xs) (d + 57) 523 (lv', [], hp w' N') r → Gx (q_kL b L xs) (d + 57) pc (lv, [], hp w N) r
theorem sl_o {b L : Nat} {xs : Nat → Int32} {i : Int} (i0 : 0 ≤ i) (i7 : i + 7 ≤ L) (hL : L < 10000) (o : Int) (o0 : 0 ≤ o) (o6 : o ≤ 6) : ∃ k : Int, (-2147483648 ≤ k ∧ k < 2147483648) ∧ ∀ (n : Nat) (r : List Value), x_sld n b L xs (.int (iZ (i + o)) :: .retAddr (b + 1) :: r) = some (n, .int (iZ k) :: r) := ⟨(xs (i + o).toNat).toInt, xs_rng _, fun _ _ => sld_Z (by omega) (by omega) hL⟩
section TURN
variable {w w' : Nat → xC} {N : Nat} {Ds : List (List (Int × List Int) × Bool × Int × Int)} {T U : List Int} {m : Nat → Int} {x : Nat → List Int} {b L : Nat} {xs : Nat → Int32} {lv : xL} {i : Int} {cnt clm cf lf : Int}
abbrev sA (b L : Nat) (xs : Nat → Int32) (i o k : Int) : Prop := ∀ (n : Nat) (r : List Value), x_sld n b L xs (.int (iZ (i + o)) :: .retAddr (b + 1) :: r) = some (n, .int (iZ k) :: r)
theorem e_3 (d : Nat) (hV : LV b i lv) (hN : 53 ≤ N) (c0 : w 0 = dk cnt clm cf lf) (r27 : w 27 = .inr (8, mF m)) (A : Int) (a : Xc (d + 57) 71 [.ref 3] (hp w N) (some (.int (iZ A)), hp w N)) (a2 : Xc (d + 57) 132 [.ref 30] (hp w N) (some (.int (iZ A)), hp w' N)) : ∀ r, Gx (q_kL b L xs) (d + 57) 523 (lv, [], hp w' N) r → Gx (q_kL b L xs) (d + 57) 297 (lv, [], hp w N) r := by
  intro r hr
  obtain ⟨hc, l0, l1, l2, l3, l4⟩ := hV
  refine Gx.run 40 (Cs.and a a2) (fun X mm => ?_) hr
  obtain ⟨ma, mb⟩ := mm
  simp (disch := first | (refine c1_id ?_; assumption) | (refine c1_st rfl ?_; repeat (first | assumption | refine c1_st rfl ?_)) | omega) [nx_l, nx_r, nx_n, x_st, x_push, x_bin, x_div, x_un, x_dup, x_pop, x_dup2, x_goto, x_ifeq, x_ifne, x_iflt, x_ifge, x_ifgt, x_ifle, x_iceq, x_icne, x_iclt, x_icge, x_icgt, x_icle, x_ifnull, x_ifnonnull, x_ldi, x_lda, x_sti, x_sta, x_iinc, x_gf, x_pf, x_ald, x_ast, x_aln, x_len, x_cl_, x_cv, x_cs, x_rc, x_r0, x_isT, x_oi, x_rv, x_ri, x_ra, Value.category, tL_297, tL_298, tL_301, tL_302, tL_305, lk_s, hp_get, hp_set, uH_at, uH_ne, uH_upd, uH_swap, iZ_add, iZ_sub, iZ_mul, iZ_neg, iZ_lt, iZ_le, iZ_eq, iZ_div, iZ_of, ix_Z, gZ_map, gZ_mapI, gZ_map', le_0, le_s, sZ_map, sZ_len, bZ_0, bZ_inj, bZ_t, bZ_f, nr_i, nr_0, nr_1, nr_b, ft_i, ft_b, ft_0, ft_1, zl_0, zl_1, zl_2, zl_3, zl_4, zl_5, zl_6, zl_7, l0, l1, l2, l4, c0, r27, ma, mb, dk, -List.filter_filter, -List.getElem?_map, -List.getD_eq_getElem?_getD]
theorem e_4 (d : Nat) (hV : LV b i lv) (hN : 53 ≤ N) (c0 : w 0 = dk cnt clm cf lf) (r27 : w 27 = .inr (8, mF m)) (A : Int) (a : Xc (d + 57) 72 [.ref 3] (hp w N) (some (.int (iZ A)), hp w N)) (a2 : Xc (d + 57) 133 [.ref 30] (hp w N) (some (.int (iZ A)), hp w' N)) : ∀ r, Gx (q_kL b L xs) (d + 57) 523 (lv, [], hp w' N) r → Gx (q_kL b L xs) (d + 57) 310 (lv, [], hp w N) r := by
  intro r hr
  obtain ⟨hc, l0, l1, l2, l3, l4⟩ := hV
  refine Gx.run 40 (Cs.and a a2) (fun X mm => ?_) hr
  obtain ⟨ma, mb⟩ := mm
  simp (disch := first | (refine c1_id ?_; assumption) | (refine c1_st rfl ?_; repeat (first | assumption | refine c1_st rfl ?_)) | omega) [nx_l, nx_r, nx_n, x_st, x_push, x_bin, x_div, x_un, x_dup, x_pop, x_dup2, x_goto, x_ifeq, x_ifne, x_iflt, x_ifge, x_ifgt, x_ifle, x_iceq, x_icne, x_iclt, x_icge, x_icgt, x_icle, x_ifnull, x_ifnonnull, x_ldi, x_lda, x_sti, x_sta, x_iinc, x_gf, x_pf, x_ald, x_ast, x_aln, x_len, x_cl_, x_cv, x_cs, x_rc, x_r0, x_isT, x_oi, x_rv, x_ri, x_ra, Value.category, tL_310, tL_311, tL_314, tL_315, tL_318, lk_s, hp_get, hp_set, uH_at, uH_ne, uH_upd, uH_swap, iZ_add, iZ_sub, iZ_mul, iZ_neg, iZ_lt, iZ_le, iZ_eq, iZ_div, iZ_of, ix_Z, gZ_map, gZ_mapI, gZ_map', le_0, le_s, sZ_map, sZ_len, bZ_0, bZ_inj, bZ_t, bZ_f, nr_i, nr_0, nr_1, nr_b, ft_i, ft_b, ft_0, ft_1, zl_0, zl_1, zl_2, zl_3, zl_4, zl_5, zl_6, zl_7, l0, l1, l2, l4, c0, r27, ma, mb, dk, -List.filter_filter, -List.getElem?_map, -List.getD_eq_getElem?_getD]
theorem e_5 (d : Nat) (hV : LV b i lv) (hN : 53 ≤ N) (c0 : w 0 = dk cnt clm cf lf) (r27 : w 27 = .inr (8, mF m)) (k1 : Int) (s1 : sA b L xs i 1 k1) (A : Int) (a : Xc (d + 57) 73 [.ref 3, .int (iZ k1)] (hp w N) (some (.int (iZ A)), hp w N)) (a2 : Xc (d + 57) 135 [.ref 30, .int (iZ k1)] (hp w N) (some (.int (iZ A)), hp w' N)) : ∀ r, Gx (q_kL b L xs) (d + 57) 523 (lv, [], hp w' N) r → Gx (q_kL b L xs) (d + 57) 323 (lv, [], hp w N) r := by
  intro r hr
  obtain ⟨hc, l0, l1, l2, l3, l4⟩ := hV
  refine Gx.run 40 (Cs.and a a2) (fun X mm => ?_) hr
  obtain ⟨ma, mb⟩ := mm
  simp (disch := first | (refine c1_id ?_; assumption) | (refine c1_st rfl ?_; repeat (first | assumption | refine c1_st rfl ?_)) | omega) [nx_l, nx_r, nx_n, x_st, x_push, x_bin, x_div, x_un, x_dup, x_pop, x_dup2, x_goto, x_ifeq, x_ifne, x_iflt, x_ifge, x_ifgt, x_ifle, x_iceq, x_icne, x_iclt, x_icge, x_icgt, x_icle, x_ifnull, x_ifnonnull, x_ldi, x_lda, x_sti, x_sta, x_iinc, x_gf, x_pf, x_ald, x_ast, x_aln, x_len, x_cl_, x_cv, x_cs, x_rc, x_r0, x_isT, x_oi, x_rv, x_ri, x_ra, Value.category, tL_323, tL_324, tL_325, tL_327, tL_328, tL_329, tL_330, tL_333, tL_334, tL_335, tL_337, tL_338, tL_339, tL_340, tL_343, lk_s, hp_get, hp_set, uH_at, uH_ne, uH_upd, uH_swap, iZ_add, iZ_sub, iZ_mul, iZ_neg, iZ_lt, iZ_le, iZ_eq, iZ_div, iZ_of, ix_Z, gZ_map, gZ_mapI, gZ_map', le_0, le_s, sZ_map, sZ_len, bZ_0, bZ_inj, bZ_t, bZ_f, nr_i, nr_0, nr_1, nr_b, ft_i, ft_b, ft_0, ft_1, zl_0, zl_1, zl_2, zl_3, zl_4, zl_5, zl_6, zl_7, l0, l1, l2, l4, c0, r27, ma, mb, s1, dk, -List.filter_filter, -List.getElem?_map, -List.getD_eq_getElem?_getD]
theorem e_6 (d : Nat) (hV : LV b i lv) (hN : 53 ≤ N) (c0 : w 0 = dk cnt clm cf lf) (r27 : w 27 = .inr (8, mF m)) (k1 : Int) (s1 : sA b L xs i 1 k1) (A : Int) (a : Xc (d + 57) 74 [.ref 3, .int (iZ k1)] (hp w N) (some (.int (iZ A)), hp w N)) (a2 : Xc (d + 57) 136 [.ref 30, .int (iZ k1)] (hp w N) (some (.int (iZ A)), hp w' N)) : ∀ r, Gx (q_kL b L xs) (d + 57) 523 (lv, [], hp w' N) r → Gx (q_kL b L xs) (d + 57) 348 (lv, [], hp w N) r := by
  intro r hr
  obtain ⟨hc, l0, l1, l2, l3, l4⟩ := hV
  refine Gx.run 40 (Cs.and a a2) (fun X mm => ?_) hr
  obtain ⟨ma, mb⟩ := mm
  simp (disch := first | (refine c1_id ?_; assumption) | (refine c1_st rfl ?_; repeat (first | assumption | refine c1_st rfl ?_)) | omega) [nx_l, nx_r, nx_n, x_st, x_push, x_bin, x_div, x_un, x_dup, x_pop, x_dup2, x_goto, x_ifeq, x_ifne, x_iflt, x_ifge, x_ifgt, x_ifle, x_iceq, x_icne, x_iclt, x_icge, x_icgt, x_icle, x_ifnull, x_ifnonnull, x_ldi, x_lda, x_sti, x_sta, x_iinc, x_gf, x_pf, x_ald, x_ast, x_aln, x_len, x_cl_, x_cv, x_cs, x_rc, x_r0, x_isT, x_oi, x_rv, x_ri, x_ra, Value.category, tL_348, tL_349, tL_350, tL_352, tL_353, tL_354, tL_355, tL_358, tL_359, tL_360, tL_362, tL_363, tL_364, tL_365, tL_368, lk_s, hp_get, hp_set, uH_at, uH_ne, uH_upd, uH_swap, iZ_add, iZ_sub, iZ_mul, iZ_neg, iZ_lt, iZ_le, iZ_eq, iZ_div, iZ_of, ix_Z, gZ_map, gZ_mapI, gZ_map', le_0, le_s, sZ_map, sZ_len, bZ_0, bZ_inj, bZ_t, bZ_f, nr_i, nr_0, nr_1, nr_b, ft_i, ft_b, ft_0, ft_1, zl_0, zl_1, zl_2, zl_3, zl_4, zl_5, zl_6, zl_7, l0, l1, l2, l4, c0, r27, ma, mb, s1, dk, -List.filter_filter, -List.getElem?_map, -List.getD_eq_getElem?_getD]
theorem e_7 (d : Nat) (hV : LV b i lv) (hN : 53 ≤ N) (c0 : w 0 = dk cnt clm cf lf) (r27 : w 27 = .inr (8, mF m)) (k1 : Int) (k2 : Int) (s1 : sA b L xs i 1 k1) (s2 : sA b L xs i 2 k2) (A : Int) (a : Xc (d + 57) 75 [.ref 3, .int (iZ k1), .int (iZ k2)] (hp w N) (some (.int (iZ A)), hp w N)) (a2 : Xc (d + 57) 140 [.ref 30, .int (iZ k1), .int (iZ k2)] (hp w N) (some (.int (iZ A)), hp w' N)) : ∀ r, Gx (q_kL b L xs) (d + 57) 523 (lv, [], hp w' N) r → Gx (q_kL b L xs) (d + 57) 373 (lv, [], hp w N) r := by
  intro r hr
  obtain ⟨hc, l0, l1, l2, l3, l4⟩ := hV
  refine Gx.run 40 (Cs.and a a2) (fun X mm => ?_) hr
  obtain ⟨ma, mb⟩ := mm
  simp (disch := first | (refine c1_id ?_; assumption) | (refine c1_st rfl ?_; repeat (first | assumption | refine c1_st rfl ?_)) | omega) [nx_l, nx_r, nx_n, x_st, x_push, x_bin, x_div, x_un, x_dup, x_pop, x_dup2, x_goto, x_ifeq, x_ifne, x_iflt, x_ifge, x_ifgt, x_ifle, x_iceq, x_icne, x_iclt, x_icge, x_icgt, x_icle, x_ifnull, x_ifnonnull, x_ldi, x_lda, x_sti, x_sta, x_iinc, x_gf, x_pf, x_ald, x_ast, x_aln, x_len, x_cl_, x_cv, x_cs, x_rc, x_r0, x_isT, x_oi, x_rv, x_ri, x_ra, Value.category, tL_373, tL_374, tL_375, tL_377, tL_378, tL_379, tL_380, tL_381, tL_383, tL_384, tL_385, tL_386, tL_389, tL_390, tL_391, tL_393, tL_394, tL_395, tL_396, tL_397, tL_399, tL_400, tL_401, tL_402, tL_405, lk_s, hp_get, hp_set, uH_at, uH_ne, uH_upd, uH_swap, iZ_add, iZ_sub, iZ_mul, iZ_neg, iZ_lt, iZ_le, iZ_eq, iZ_div, iZ_of, ix_Z, gZ_map, gZ_mapI, gZ_map', le_0, le_s, sZ_map, sZ_len, bZ_0, bZ_inj, bZ_t, bZ_f, nr_i, nr_0, nr_1, nr_b, ft_i, ft_b, ft_0, ft_1, zl_0, zl_1, zl_2, zl_3, zl_4, zl_5, zl_6, zl_7, l0, l1, l2, l4, c0, r27, ma, mb, s1, s2, dk, -List.filter_filter, -List.getElem?_map, -List.getD_eq_getElem?_getD]
theorem e_8 (d : Nat) (hV : LV b i lv) (hN : 53 ≤ N) (c0 : w 0 = dk cnt clm cf lf) (r27 : w 27 = .inr (8, mF m)) (k1 : Int) (s1 : sA b L xs i 1 k1) (A : Int) (a : Xc (d + 57) 76 [.ref 3, .int (iZ k1)] (hp w N) (some (.int (iZ A)), hp w N)) (a2 : Xc (d + 57) 141 [.ref 30, .int (iZ k1)] (hp w N) (some (.int (iZ A)), hp w' N)) : ∀ r, Gx (q_kL b L xs) (d + 57) 523 (lv, [], hp w' N) r → Gx (q_kL b L xs) (d + 57) 410 (lv, [], hp w N) r := by
  intro r hr
  obtain ⟨hc, l0, l1, l2, l3, l4⟩ := hV
  refine Gx.run 40 (Cs.and a a2) (fun X mm => ?_) hr
  obtain ⟨ma, mb⟩ := mm
  simp (disch := first | (refine c1_id ?_; assumption) | (refine c1_st rfl ?_; repeat (first | assumption | refine c1_st rfl ?_)) | omega) [nx_l, nx_r, nx_n, x_st, x_push, x_bin, x_div, x_un, x_dup, x_pop, x_dup2, x_goto, x_ifeq, x_ifne, x_iflt, x_ifge, x_ifgt, x_ifle, x_iceq, x_icne, x_iclt, x_icge, x_icgt, x_icle, x_ifnull, x_ifnonnull, x_ldi, x_lda, x_sti, x_sta, x_iinc, x_gf, x_pf, x_ald, x_ast, x_aln, x_len, x_cl_, x_cv, x_cs, x_rc, x_r0, x_isT, x_oi, x_rv, x_ri, x_ra, Value.category, tL_410, tL_411, tL_412, tL_414, tL_415, tL_416, tL_417, tL_420, tL_421, tL_422, tL_424, tL_425, tL_426, tL_427, tL_430, lk_s, hp_get, hp_set, uH_at, uH_ne, uH_upd, uH_swap, iZ_add, iZ_sub, iZ_mul, iZ_neg, iZ_lt, iZ_le, iZ_eq, iZ_div, iZ_of, ix_Z, gZ_map, gZ_mapI, gZ_map', le_0, le_s, sZ_map, sZ_len, bZ_0, bZ_inj, bZ_t, bZ_f, nr_i, nr_0, nr_1, nr_b, ft_i, ft_b, ft_0, ft_1, zl_0, zl_1, zl_2, zl_3, zl_4, zl_5, zl_6, zl_7, l0, l1, l2, l4, c0, r27, ma, mb, s1, dk, -List.filter_filter, -List.getElem?_map, -List.getD_eq_getElem?_getD]
theorem e_9 (d : Nat) (hV : LV b i lv) (hN : 53 ≤ N) (c0 : w 0 = dk cnt clm cf lf) (r27 : w 27 = .inr (8, mF m)) (k1 : Int) (k2 : Int) (s1 : sA b L xs i 1 k1) (s2 : sA b L xs i 2 k2) (A : Int) (a : Xc (d + 57) 77 [.ref 3, .int (iZ k1), .int (iZ k2)] (hp w N) (some (.int (iZ A)), hp w N)) (a2 : Xc (d + 57) 142 [.ref 30, .int (iZ k1), .int (iZ k2)] (hp w N) (some (.int (iZ A)), hp w' N)) : ∀ r, Gx (q_kL b L xs) (d + 57) 523 (lv, [], hp w' N) r → Gx (q_kL b L xs) (d + 57) 435 (lv, [], hp w N) r := by
  intro r hr
  obtain ⟨hc, l0, l1, l2, l3, l4⟩ := hV
  refine Gx.run 40 (Cs.and a a2) (fun X mm => ?_) hr
  obtain ⟨ma, mb⟩ := mm
  simp (disch := first | (refine c1_id ?_; assumption) | (refine c1_st rfl ?_; repeat (first | assumption | refine c1_st rfl ?_)) | omega) [nx_l, nx_r, nx_n, x_st, x_push, x_bin, x_div, x_un, x_dup, x_pop, x_dup2, x_goto, x_ifeq, x_ifne, x_iflt, x_ifge, x_ifgt, x_ifle, x_iceq, x_icne, x_iclt, x_icge, x_icgt, x_icle, x_ifnull, x_ifnonnull, x_ldi, x_lda, x_sti, x_sta, x_iinc, x_gf, x_pf, x_ald, x_ast, x_aln, x_len, x_cl_, x_cv, x_cs, x_rc, x_r0, x_isT, x_oi, x_rv, x_ri, x_ra, Value.category, tL_435, tL_436, tL_437, tL_439, tL_440, tL_441, tL_442, tL_443, tL_445, tL_446, tL_447, tL_448, tL_451, tL_452, tL_453, tL_455, tL_456, tL_457, tL_458, tL_459, tL_461, tL_462, tL_463, tL_464, tL_467, lk_s, hp_get, hp_set, uH_at, uH_ne, uH_upd, uH_swap, iZ_add, iZ_sub, iZ_mul, iZ_neg, iZ_lt, iZ_le, iZ_eq, iZ_div, iZ_of, ix_Z, gZ_map, gZ_mapI, gZ_map', le_0, le_s, sZ_map, sZ_len, bZ_0, bZ_inj, bZ_t, bZ_f, nr_i, nr_0, nr_1, nr_b, ft_i, ft_b, ft_0, ft_1, zl_0, zl_1, zl_2, zl_3, zl_4, zl_5, zl_6, zl_7, l0, l1, l2, l4, c0, r27, ma, mb, s1, s2, dk, -List.filter_filter, -List.getElem?_map, -List.getD_eq_getElem?_getD]
theorem e_10 (d : Nat) (hV : LV b i lv) (hN : 53 ≤ N) (c0 : w 0 = dk cnt clm cf lf) (r27 : w 27 = .inr (8, mF m)) (A : Int) (a : Xc (d + 57) 78 [.ref 3] (hp w N) (some (.int (iZ A)), hp w N)) (a2 : Xc (d + 57) 143 [.ref 30] (hp w N) (some (.int (iZ A)), hp w' N)) : ∀ r, Gx (q_kL b L xs) (d + 57) 523 (lv, [], hp w' N) r → Gx (q_kL b L xs) (d + 57) 472 (lv, [], hp w N) r := by
  intro r hr
  obtain ⟨hc, l0, l1, l2, l3, l4⟩ := hV
  refine Gx.run 40 (Cs.and a a2) (fun X mm => ?_) hr
  obtain ⟨ma, mb⟩ := mm
  simp (disch := first | (refine c1_id ?_; assumption) | (refine c1_st rfl ?_; repeat (first | assumption | refine c1_st rfl ?_)) | omega) [nx_l, nx_r, nx_n, x_st, x_push, x_bin, x_div, x_un, x_dup, x_pop, x_dup2, x_goto, x_ifeq, x_ifne, x_iflt, x_ifge, x_ifgt, x_ifle, x_iceq, x_icne, x_iclt, x_icge, x_icgt, x_icle, x_ifnull, x_ifnonnull, x_ldi, x_lda, x_sti, x_sta, x_iinc, x_gf, x_pf, x_ald, x_ast, x_aln, x_len, x_cl_, x_cv, x_cs, x_rc, x_r0, x_isT, x_oi, x_rv, x_ri, x_ra, Value.category, tL_472, tL_473, tL_476, tL_477, tL_480, lk_s, hp_get, hp_set, uH_at, uH_ne, uH_upd, uH_swap, iZ_add, iZ_sub, iZ_mul, iZ_neg, iZ_lt, iZ_le, iZ_eq, iZ_div, iZ_of, ix_Z, gZ_map, gZ_mapI, gZ_map', le_0, le_s, sZ_map, sZ_len, bZ_0, bZ_inj, bZ_t, bZ_f, nr_i, nr_0, nr_1, nr_b, ft_i, ft_b, ft_0, ft_1, zl_0, zl_1, zl_2, zl_3, zl_4, zl_5, zl_6, zl_7, l0, l1, l2, l4, c0, r27, ma, mb, dk, -List.filter_filter, -List.getElem?_map, -List.getD_eq_getElem?_getD]
theorem e_11 (d : Nat) (hV : LV b i lv) (hN : 53 ≤ N) (c0 : w 0 = dk cnt clm cf lf) (r27 : w 27 = .inr (8, mF m)) (k1 : Int) (s1 : sA b L xs i 1 k1) (A : Int) (a : Xc (d + 57) 79 [.ref 3, .int (iZ k1)] (hp w N) (some (.int (iZ A)), hp w N)) (a2 : Xc (d + 57) 144 [.ref 30, .int (iZ k1)] (hp w N) (some (.int (iZ A)), hp w' N)) : ∀ r, Gx (q_kL b L xs) (d + 57) 523 (lv, [], hp w' N) r → Gx (q_kL b L xs) (d + 57) 485 (lv, [], hp w N) r := by
  intro r hr
  obtain ⟨hc, l0, l1, l2, l3, l4⟩ := hV
  refine Gx.run 40 (Cs.and a a2) (fun X mm => ?_) hr
  obtain ⟨ma, mb⟩ := mm
  simp (disch := first | (refine c1_id ?_; assumption) | (refine c1_st rfl ?_; repeat (first | assumption | refine c1_st rfl ?_)) | omega) [nx_l, nx_r, nx_n, x_st, x_push, x_bin, x_div, x_un, x_dup, x_pop, x_dup2, x_goto, x_ifeq, x_ifne, x_iflt, x_ifge, x_ifgt, x_ifle, x_iceq, x_icne, x_iclt, x_icge, x_icgt, x_icle, x_ifnull, x_ifnonnull, x_ldi, x_lda, x_sti, x_sta, x_iinc, x_gf, x_pf, x_ald, x_ast, x_aln, x_len, x_cl_, x_cv, x_cs, x_rc, x_r0, x_isT, x_oi, x_rv, x_ri, x_ra, Value.category, tL_485, tL_486, tL_487, tL_489, tL_490, tL_491, tL_492, tL_495, tL_496, tL_497, tL_499, tL_500, tL_501, tL_502, tL_505, lk_s, hp_get, hp_set, uH_at, uH_ne, uH_upd, uH_swap, iZ_add, iZ_sub, iZ_mul, iZ_neg, iZ_lt, iZ_le, iZ_eq, iZ_div, iZ_of, ix_Z, gZ_map, gZ_mapI, gZ_map', le_0, le_s, sZ_map, sZ_len, bZ_0, bZ_inj, bZ_t, bZ_f, nr_i, nr_0, nr_1, nr_b, ft_i, ft_b, ft_0, ft_1, zl_0, zl_1, zl_2, zl_3, zl_4, zl_5, zl_6, zl_7, l0, l1, l2, l4, c0, r27, ma, mb, s1, dk, -List.filter_filter, -List.getElem?_map, -List.getD_eq_getElem?_getD]
theorem e_12 (d : Nat) (hV : LV b i lv) (hN : 53 ≤ N) (c0 : w 0 = dk cnt clm cf lf) (r27 : w 27 = .inr (8, mF m)) (A : Int) (a : Xc (d + 57) 80 [.ref 3] (hp w N) (some (.int (iZ A)), hp w N)) (a2 : Xc (d + 57) 145 [.ref 30] (hp w N) (some (.int (iZ A)), hp w' N)) : ∀ r, Gx (q_kL b L xs) (d + 57) 523 (lv, [], hp w' N) r → Gx (q_kL b L xs) (d + 57) 510 (lv, [], hp w N) r := by
  intro r hr
  obtain ⟨hc, l0, l1, l2, l3, l4⟩ := hV
  refine Gx.run 40 (Cs.and a a2) (fun X mm => ?_) hr
  obtain ⟨ma, mb⟩ := mm
  simp (disch := first | (refine c1_id ?_; assumption) | (refine c1_st rfl ?_; repeat (first | assumption | refine c1_st rfl ?_)) | omega) [nx_l, nx_r, nx_n, x_st, x_push, x_bin, x_div, x_un, x_dup, x_pop, x_dup2, x_goto, x_ifeq, x_ifne, x_iflt, x_ifge, x_ifgt, x_ifle, x_iceq, x_icne, x_iclt, x_icge, x_icgt, x_icle, x_ifnull, x_ifnonnull, x_ldi, x_lda, x_sti, x_sta, x_iinc, x_gf, x_pf, x_ald, x_ast, x_aln, x_len, x_cl_, x_cv, x_cs, x_rc, x_r0, x_isT, x_oi, x_rv, x_ri, x_ra, Value.category, tL_510, tL_511, tL_514, tL_515, tL_518, lk_s, hp_get, hp_set, uH_at, uH_ne, uH_upd, uH_swap, iZ_add, iZ_sub, iZ_mul, iZ_neg, iZ_lt, iZ_le, iZ_eq, iZ_div, iZ_of, ix_Z, gZ_map, gZ_mapI, gZ_map', le_0, le_s, sZ_map, sZ_len, bZ_0, bZ_inj, bZ_t, bZ_f, nr_i, nr_0, nr_1, nr_b, ft_i, ft_b, ft_0, ft_1, zl_0, zl_1, zl_2, zl_3, zl_4, zl_5, zl_6, zl_7, l0, l1, l2, l4, c0, r27, ma, mb, dk, -List.filter_filter, -List.getElem?_map, -List.getD_eq_getElem?_getD]
theorem lb_3 (d : Nat) (hV : LV b i lv) (hI : IV w N Ds T U m x) : Nx d b L xs i 297 lv w N Ds := by
  obtain ⟨⟨clm, cf, hC⟩, hR, hK, hB, v, hv⟩ := id hI
  have hN := hC.2.2.2.2.2.2.2.2.2.2.2.1
  have a2 := m132 (d + 56) hN hR
  exact ⟨_, N, lv, Ds, T, U, _, _, hV, hI.z0, Nat.le_refl _, by omega, Nat.le_refl _, e_3 d hV hN hC.1 hR.1.1 _ (m71 (d + 56) hC) a2⟩
theorem lb_4 (d : Nat) (hV : LV b i lv) (hI : IV w N Ds T U m x) : Nx d b L xs i 310 lv w N Ds := by
  obtain ⟨⟨clm, cf, hC⟩, hR, hK, hB, v, hv⟩ := id hI
  have hN := hC.2.2.2.2.2.2.2.2.2.2.2.1
  have a2 := m133 (d + 56) hN hR
  exact ⟨_, N, lv, Ds, T, U, _, _, hV, hI.z0, Nat.le_refl _, by omega, Nat.le_refl _, e_4 d hV hN hC.1 hR.1.1 _ (m72 (d + 56) hC) a2⟩
theorem lb_5 (d : Nat) (hV : LV b i lv) (hI : IV w N Ds T U m x) (i0 : 0 ≤ i) (i7 : i + 7 ≤ L) (hL : L < 10000) : Nx d b L xs i 323 lv w N Ds := by
  obtain ⟨⟨clm, cf, hC⟩, hR, hK, hB, v, hv⟩ := id hI
  have hN := hC.2.2.2.2.2.2.2.2.2.2.2.1
  obtain ⟨k1, r1, s1⟩ := sl_o (b := b) (xs := xs) i0 i7 hL 1 (by decide) (by decide)
  have a2 := m135 (d + 55) hN hR k1 r1
  exact ⟨_, N, lv, Ds, T, U, _, _, hV, hI.z0, Nat.le_refl _, by omega, Nat.le_refl _, e_5 d hV hN hC.1 hR.1.1 k1 s1 _ (m73 (d + 55) hC k1 r1) a2⟩
theorem lb_6 (d : Nat) (hV : LV b i lv) (hI : IV w N Ds T U m x) (i0 : 0 ≤ i) (i7 : i + 7 ≤ L) (hL : L < 10000) : Nx d b L xs i 348 lv w N Ds := by
  obtain ⟨⟨clm, cf, hC⟩, hR, hK, hB, v, hv⟩ := id hI
  have hN := hC.2.2.2.2.2.2.2.2.2.2.2.1
  obtain ⟨k1, r1, s1⟩ := sl_o (b := b) (xs := xs) i0 i7 hL 1 (by decide) (by decide)
  have a2 := m136 (d + 55) hN hR k1 r1
  exact ⟨_, N, lv, Ds, T, U, _, _, hV, hI.z0, Nat.le_refl _, by omega, Nat.le_refl _, e_6 d hV hN hC.1 hR.1.1 k1 s1 _ (m74 (d + 55) hC k1 r1) a2⟩
theorem lb_7 (d : Nat) (hV : LV b i lv) (hI : IV w N Ds T U m x) (i0 : 0 ≤ i) (i7 : i + 7 ≤ L) (hL : L < 10000) : Nx d b L xs i 373 lv w N Ds := by
  obtain ⟨⟨clm, cf, hC⟩, hR, hK, hB, v, hv⟩ := id hI
  have hN := hC.2.2.2.2.2.2.2.2.2.2.2.1
  obtain ⟨k1, r1, s1⟩ := sl_o (b := b) (xs := xs) i0 i7 hL 1 (by decide) (by decide)
  obtain ⟨k2, r2, s2⟩ := sl_o (b := b) (xs := xs) i0 i7 hL 2 (by decide) (by decide)
  obtain ⟨w', m', x', f, hR', -, e1, a2⟩ := m140 (d + 54) hN hR k1 k2 r1 r2
  exact ⟨w', N, lv, Ds, T, U, m', x', hV, hI.ref f hR' e1, Nat.le_refl _, by omega, Nat.le_refl _, e_7 d hV hN hC.1 hR.1.1 k1 k2 s1 s2 _ (m75 (d + 52) hC k1 k2 r1 r2) a2⟩
theorem lb_8 (d : Nat) (hV : LV b i lv) (hI : IV w N Ds T U m x) (i0 : 0 ≤ i) (i7 : i + 7 ≤ L) (hL : L < 10000) : Nx d b L xs i 410 lv w N Ds := by
  obtain ⟨⟨clm, cf, hC⟩, hR, hK, hB, v, hv⟩ := id hI
  have hN := hC.2.2.2.2.2.2.2.2.2.2.2.1
  obtain ⟨k1, r1, s1⟩ := sl_o (b := b) (xs := xs) i0 i7 hL 1 (by decide) (by decide)
  have a2 := m141 (d + 55) hN hR k1 r1
  exact ⟨_, N, lv, Ds, T, U, _, _, hV, hI.z0, Nat.le_refl _, by omega, Nat.le_refl _, e_8 d hV hN hC.1 hR.1.1 k1 s1 _ (m76 (d + 55) hC k1 r1) a2⟩
theorem lb_9 (d : Nat) (hV : LV b i lv) (hI : IV w N Ds T U m x) (i0 : 0 ≤ i) (i7 : i + 7 ≤ L) (hL : L < 10000) : Nx d b L xs i 435 lv w N Ds := by
  obtain ⟨⟨clm, cf, hC⟩, hR, hK, hB, v, hv⟩ := id hI
  have hN := hC.2.2.2.2.2.2.2.2.2.2.2.1
  obtain ⟨k1, r1, s1⟩ := sl_o (b := b) (xs := xs) i0 i7 hL 1 (by decide) (by decide)
  obtain ⟨k2, r2, s2⟩ := sl_o (b := b) (xs := xs) i0 i7 hL 2 (by decide) (by decide)
  have a2 := m142 (d + 55) hN hR k1 k2 r1 r2
  rw [needs_eq hR hB] at a2
  exact ⟨_, N, lv, Ds, T, U, _, _, hV, hI.z0, Nat.le_refl _, by omega, Nat.le_refl _, e_9 d hV hN hC.1 hR.1.1 k1 k2 s1 s2 _ (m77 (d + 55) hC k1 k2 r1 r2) a2⟩
theorem lb_10 (d : Nat) (hV : LV b i lv) (hI : IV w N Ds T U m x) : Nx d b L xs i 472 lv w N Ds := by
  obtain ⟨⟨clm, cf, hC⟩, hR, hK, hB, v, hv⟩ := id hI
  have hN := hC.2.2.2.2.2.2.2.2.2.2.2.1
  have a2 := m143 (d + 56) hN hR
  exact ⟨_, N, lv, Ds, T, U, _, _, hV, hI.z0, Nat.le_refl _, by omega, Nat.le_refl _, e_10 d hV hN hC.1 hR.1.1 _ (m78 (d + 55) hC) a2⟩
theorem lb_11 (d : Nat) (hV : LV b i lv) (hI : IV w N Ds T U m x) (i0 : 0 ≤ i) (i7 : i + 7 ≤ L) (hL : L < 10000) : Nx d b L xs i 485 lv w N Ds := by
  obtain ⟨⟨clm, cf, hC⟩, hR, hK, hB, v, hv⟩ := id hI
  have hN := hC.2.2.2.2.2.2.2.2.2.2.2.1
  obtain ⟨k1, r1, s1⟩ := sl_o (b := b) (xs := xs) i0 i7 hL 1 (by decide) (by decide)
  obtain ⟨w', m', x', f, hR', -, e1, a2⟩ := m144 (d + 53) hN hR k1 r1
  exact ⟨w', N, lv, Ds, T, U, m', x', hV, hI.ref f hR' e1, Nat.le_refl _, by omega, Nat.le_refl _, e_11 d hV hN hC.1 hR.1.1 k1 s1 _ (m79 (d + 52) hC k1 r1) a2⟩
theorem lb_12 (d : Nat) (hV : LV b i lv) (hI : IV w N Ds T U m x) : Nx d b L xs i 510 lv w N Ds := by
  obtain ⟨⟨clm, cf, hC⟩, hR, hK, hB, v, hv⟩ := id hI
  have hN := hC.2.2.2.2.2.2.2.2.2.2.2.1
  have a2 := m145 (d + 56) hN hR
  exact ⟨_, N, lv, Ds, T, U, _, _, hV, hI.z0, Nat.le_refl _, by omega, Nat.le_refl _, e_12 d hV hN hC.1 hR.1.1 _ (m80 (d + 56) hC) a2⟩
end TURN
