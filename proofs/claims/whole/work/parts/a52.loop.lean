/-! the law: its loop, its beginning and its end -/

theorem x_tswI {v : Int32} {t : Nat} {b L : Nat} {xs : Nat → Int32} {d : Nat} {lv : xL} {h : xH} {r : Option Value × xH} (ht : x_tsw 0 12 [108, 135, 179, 297, 310, 323, 348, 373, 410, 435, 472, 485, 510] 523 [.int v] = some (t, [])) (hg : Gx (q_kL b L xs) d t (lv, [], h) r) : Gx (q_kL b L xs) d 40 (lv, [.int v], h) r := by
  refine Gx.run 1 Cs.tt (fun X _ => ?_) hg
  rw [tL_40]
  unfold x_st
  dsimp only
  rw [ht]
  simp [nx_l]
section LOOP
variable {w : Nat → xC} {N : Nat} {Ds : List (List (Int × List Int) × Bool × Int × Int)} {T U : List Int} {m : Nat → Int} {x : Nat → List Int} {b L : Nat} {xs : Nat → Int32} {lv : xL} {i : Int} {h : xH} {r : Option Value × xH}
theorem g_in (d : Nat) (hV : LV b i lv) (i0 : 0 ≤ i) (i7 : i + 7 ≤ L) (hL : L < 10000) (hg : Gx (q_kL b L xs) d 40 (lv, [.int (xs i.toNat &&& 15)], h) r) : Gx (q_kL b L xs) d 23 (lv, [], h) r := by
  obtain ⟨hc, l0, l1, l2, l3, l4⟩ := hV
  have s0 : ∀ (n : Nat) (r : List Value), x_sld n b L xs (.int (iZ i) :: .retAddr (b + 1) :: r) = some (n, .int (xs i.toNat) :: r) := fun n r => by rw [sld_Z i0 (by omega) hL, iZ_self]
  have ht : ¬ ((L : Int) - 7 < i) := by omega
  obtain ⟨y, hy⟩ : ∃ y, y = xs i.toNat := ⟨_, rfl⟩
  rw [← hy] at hg
  simp only [← hy] at s0
  refine Gx.run 30 Cs.tt (fun X _ => ?_) hg
  simp (disch := first | (refine c1_id ?_; assumption) | (refine c1_st rfl ?_; repeat (first | assumption | refine c1_st rfl ?_)) | omega) [nx_l, nx_r, nx_n, x_st, x_push, x_bin, x_div, x_un, x_dup, x_pop, x_dup2, x_goto, x_ifeq, x_ifne, x_iflt, x_ifge, x_ifgt, x_ifle, x_iceq, x_icne, x_iclt, x_icge, x_icgt, x_icle, x_ifnull, x_ifnonnull, x_ldi, x_lda, x_sti, x_sta, x_iinc, x_gf, x_pf, x_ald, x_ast, x_aln, x_len, x_cl_, x_cv, x_cs, x_rc, x_r0, x_isT, x_oi, x_rv, x_ri, x_ra, Value.category, tL_23, tL_25, tL_26, tL_27, tL_29, tL_30, tL_33, tL_34, tL_36, tL_37, tL_39, lk_s, hp_get, hp_set, uH_at, uH_ne, uH_upd, uH_swap, iZ_add, iZ_sub, iZ_mul, iZ_neg, iZ_lt, iZ_le, iZ_eq, iZ_div, iZ_of, ix_Z, gZ_map, gZ_mapI, gZ_map', le_0, le_s, sZ_map, sZ_len, bZ_0, bZ_inj, bZ_t, bZ_f, nr_i, nr_0, nr_1, nr_b, ft_i, ft_b, ft_0, ft_1, zl_0, zl_1, zl_2, zl_3, zl_4, zl_5, zl_6, zl_7, l0, l4, s0, sln_Z, ht, -List.filter_filter, -List.getElem?_map, -List.getD_eq_getElem?_getD]
theorem g_out (d : Nat) (hV : LV b i lv) (i0 : 0 ≤ i) (i1 : i < 20000) (i7 : (L : Int) < i + 7) (hL : L < 10000) : Gx (q_kL b L xs) d 23 (lv, [], h) (some (.int (iZ 1)), h) := by
  obtain ⟨hc, l0, l1, l2, l3, l4⟩ := hV
  have ht : (L : Int) - 7 < i := by omega
  refine Gx.fin 30 Cs.tt (fun X _ => ?_)
  simp (disch := first | (refine c1_id ?_; assumption) | (refine c1_st rfl ?_; repeat (first | assumption | refine c1_st rfl ?_)) | omega) [nx_l, nx_r, nx_n, x_st, x_push, x_bin, x_div, x_un, x_dup, x_pop, x_dup2, x_goto, x_ifeq, x_ifne, x_iflt, x_ifge, x_ifgt, x_ifle, x_iceq, x_icne, x_iclt, x_icge, x_icgt, x_icle, x_ifnull, x_ifnonnull, x_ldi, x_lda, x_sti, x_sta, x_iinc, x_gf, x_pf, x_ald, x_ast, x_aln, x_len, x_cl_, x_cv, x_cs, x_rc, x_r0, x_isT, x_oi, x_rv, x_ri, x_ra, Value.category, tL_23, tL_25, tL_26, tL_27, tL_29, tL_30, lk_s, hp_get, hp_set, uH_at, uH_ne, uH_upd, uH_swap, iZ_add, iZ_sub, iZ_mul, iZ_neg, iZ_lt, iZ_le, iZ_eq, iZ_div, iZ_of, ix_Z, gZ_map, gZ_mapI, gZ_map', le_0, le_s, sZ_map, sZ_len, bZ_0, bZ_inj, bZ_t, bZ_f, nr_i, nr_0, nr_1, nr_b, ft_i, ft_b, ft_0, ft_1, zl_0, zl_1, zl_2, zl_3, zl_4, zl_5, zl_6, zl_7, l0, l4, sln_Z, ht, tL_529, tL_530, -List.filter_filter, -List.getElem?_map, -List.getD_eq_getElem?_getD]
theorem g_back (d : Nat) (hV : LV b i lv) (hg : Gx (q_kL b L xs) d 23 ((4, .int (iZ (i + 7))) :: lv.filter (x_keep 4), [], h) r) : Gx (q_kL b L xs) d 523 (lv, [], h) r := by
  obtain ⟨hc, l0, l1, l2, l3, l4⟩ := hV
  refine Gx.run 30 Cs.tt (fun X _ => ?_) hg
  simp (disch := first | (refine c1_id ?_; assumption) | (refine c1_st rfl ?_; repeat (first | assumption | refine c1_st rfl ?_)) | omega) [nx_l, nx_r, nx_n, x_st, x_push, x_bin, x_div, x_un, x_dup, x_pop, x_dup2, x_goto, x_ifeq, x_ifne, x_iflt, x_ifge, x_ifgt, x_ifle, x_iceq, x_icne, x_iclt, x_icge, x_icgt, x_icle, x_ifnull, x_ifnonnull, x_ldi, x_lda, x_sti, x_sta, x_iinc, x_gf, x_pf, x_ald, x_ast, x_aln, x_len, x_cl_, x_cv, x_cs, x_rc, x_r0, x_isT, x_oi, x_rv, x_ri, x_ra, Value.category, tL_523, tL_526, lk_s, hp_get, hp_set, uH_at, uH_ne, uH_upd, uH_swap, iZ_add, iZ_sub, iZ_mul, iZ_neg, iZ_lt, iZ_le, iZ_eq, iZ_div, iZ_of, ix_Z, gZ_map, gZ_mapI, gZ_map', le_0, le_s, sZ_map, sZ_len, bZ_0, bZ_inj, bZ_t, bZ_f, nr_i, nr_0, nr_1, nr_b, ft_i, ft_b, ft_0, ft_1, zl_0, zl_1, zl_2, zl_3, zl_4, zl_5, zl_6, zl_7, l0, l4, -List.filter_filter, -List.getElem?_map, -List.getD_eq_getElem?_getD]
theorem LV.i7 (hV : LV b i lv) (j : Int) : LV b j ((4, .int (iZ j)) :: lv.filter (x_keep 4)) := by
  obtain ⟨h1, h2, h3, h4, h5, h6⟩ := hV
  refine ⟨c1_st rfl h1, ?_, ?_, ?_, ?_, ?_⟩
  · rw [lk_s h1, if_neg (by omega)]
    exact h2
  · rw [lk_s h1, if_neg (by omega)]
    exact h3
  · rw [lk_s h1, if_neg (by omega)]
    exact h4
  · rw [lk_s h1, if_neg (by omega)]
    exact h5
  · rw [lk_s h1, if_pos rfl]
theorem lp_one (d : Nat) (hV : LV b i lv) (hI : IV w N Ds T U m x) (i0 : 0 ≤ i) (i7 : i + 7 ≤ L) (hL : L < 10000) : Nx d b L xs i 23 lv w N Ds := by
  have key : ∃ t, Nx d b L xs i t lv w N Ds ∧ x_tsw 0 12 [108, 135, 179, 297, 310, 323, 348, 373, 410, 435, 472, 485, 510] 523 [.int (xs i.toNat &&& 15)] = some (t, []) := by
    have self : Nx d b L xs i 523 lv w N Ds := ⟨w, N, lv, Ds, T, U, m, x, hV, hI, Nat.le_refl _, by omega, Nat.le_refl _, fun _ h => h⟩
    obtain ⟨j, hj, ej⟩ := pk_andE (xs i.toNat) (m := 15) 4 (by decide)
    rw [ej]
    match j, hj with
    | 0, _ => exact ⟨108, lb_0 d hV hI i0 i7 hL, by decide⟩
    | 1, _ => exact ⟨135, lb_1 d hV hI, by decide⟩
    | 2, _ => exact ⟨179, lb_2 d hV hI i0 i7 hL, by decide⟩
    | 3, _ => exact ⟨297, lb_3 d hV hI, by decide⟩
    | 4, _ => exact ⟨310, lb_4 d hV hI, by decide⟩
    | 5, _ => exact ⟨323, lb_5 d hV hI i0 i7 hL, by decide⟩
    | 6, _ => exact ⟨348, lb_6 d hV hI i0 i7 hL, by decide⟩
    | 7, _ => exact ⟨373, lb_7 d hV hI i0 i7 hL, by decide⟩
    | 8, _ => exact ⟨410, lb_8 d hV hI i0 i7 hL, by decide⟩
    | 9, _ => exact ⟨435, lb_9 d hV hI i0 i7 hL, by decide⟩
    | 10, _ => exact ⟨472, lb_10 d hV hI, by decide⟩
    | 11, _ => exact ⟨485, lb_11 d hV hI i0 i7 hL, by decide⟩
    | 12, _ => exact ⟨510, lb_12 d hV hI, by decide⟩
    | 13, _ => exact ⟨523, self, by decide⟩
    | 14, _ => exact ⟨523, self, by decide⟩
    | 15, _ => exact ⟨523, self, by decide⟩
    | k + 16, hk => exact absurd hk (by omega)
  obtain ⟨t, ⟨w', N', lv', Ds', T', U', m', x', hV', hI', n1, n2, n3, hop⟩, ht⟩ := key
  exact ⟨w', N', lv', Ds', T', U', m', x', hV', hI', n1, n2, n3, fun r hr => g_in _ hV i0 i7 hL (x_tswI ht (hop r hr))⟩
end LOOP
theorem lp {b L : Nat} {xs : Nat → Int32} (d : Nat) (hL : L ≤ 3584) : ∀ (k : Nat) (i : Int) (lv : xL) (w : Nat → xC) (N : Nat) (Ds : List (List (Int × List Int) × Bool × Int × Int)) (T U : List Int) (m : Nat → Int) (x : Nat → List Int), LV b i lv → IV w N Ds T U m x → 0 ≤ i → i < 10000 → (L : Int) < i + 7 * k + 7 → N + k ≤ 565 + 206 * Ds.length → ∃ (w' : Nat → xC) (N' : Nat) (Ds' : List (List (Int × List Int) × Bool × Int × Int)) (T' U' : List Int) (m' : Nat → Int) (x' : Nat → List Int), IV w' N' Ds' T' U' m' x' ∧ N' ≤ 565 + 206 * Ds'.length ∧ Gx (q_kL b L xs) (d + 57) 23 (lv, [], hp w N) (some (.int (iZ 1)), hp w' N') := by
  intro k
  induction k with
  | zero =>
    intro i lv w N Ds T U m x hV hI i0 i1 i7 hN
    exact ⟨w, N, Ds, T, U, m, x, hI, by omega, g_out _ hV i0 (by omega) (by omega) (by omega)⟩
  | succ k ih =>
    intro i lv w N Ds T U m x hV hI i0 i1 i7 hN
    by_cases hi : i + 7 ≤ L
    · obtain ⟨w', N', lv', Ds', T', U', m', x', hV', hI', n1, n2, n3, hop⟩ := lp_one (xs := xs) d hV hI i0 hi (by omega)
      obtain ⟨w2, N2, Ds2, T2, U2, m2_, x2_, q1, q2, q3⟩ := ih (i + 7) _ w' N' Ds' T' U' m' x' (hV'.i7 (i + 7)) hI' (by omega) (by omega) (by omega) (by omega)
      exact ⟨w2, N2, Ds2, T2, U2, m2_, x2_, q1, q2, hop _ (g_back _ hV' q3)⟩
    · exact ⟨w, N, Ds, T, U, m, x, hI, by omega, g_out _ hV i0 (by omega) (by omega) (by omega)⟩
theorem c1_I (t : Nat) (S : List Int) : x_c1 (cI t S) = S.length := List.length_map (as := S) iZ
theorem sl_b {w : Nat → xC} (K : ∀ j, j < 53 → x_c1 (w j) ≤ 1320) : ∀ n, n ≤ 53 → x_sl (hp w n) ≤ 1320 * n
  | 0, _ => Nat.le_refl _
  | n + 1, hn => by
    have h1 := sl_b K n (by omega)
    have h2 := K n (by omega)
    rw [hp_sl]
    omega
theorem sl_c {w : Nat → xC} {N : Nat} (K : ∀ j, j < 53 → x_c1 (w j) ≤ 1320) (K2 : ∀ j, 53 ≤ j → j < N → x_c1 (w j) ≤ 400) : ∀ k, 53 + k ≤ N → x_sl (hp w (53 + k)) ≤ 69960 + 400 * k
  | 0, _ => sl_b K 53 (Nat.le_refl _)
  | k + 1, hk => by
    have h1 := sl_c K K2 k (by omega)
    have h2 := K2 (53 + k) (by omega) (by omega)
    rw [show 53 + (k + 1) = (53 + k) + 1 by omega, hp_sl]
    omega
theorem lnR_le : ∀ j, j < 24 → lnR (j + 28) ≤ 1320 := by decide
theorem IV.sl {w : Nat → xC} {N : Nat} {Ds : List (List (Int × List Int) × Bool × Int × Int)} {T U : List Int} {m : Nat → Int} {x : Nat → List Int} (h : IV w N Ds T U m x) : x_sl (hp w N) ≤ 69960 + 400 * (N - 53) := by
  obtain ⟨⟨clm, cf, z0, -, ⟨p, Tx, z1, z2, z3⟩, ⟨Rf, r1, r2, -⟩, z4, z5, z6, ⟨V, v1, v2⟩, z9, z10, z11, z12, z13⟩, hR, -, -, v, hv⟩ := h
  have cI_ : ∀ (j t : Nat) (S : List Int), w j = cI t S → S.length ≤ 1320 → x_c1 (w j) ≤ 1320 := fun j t S e hS => by rw [e, c1_I]; exact hS
  have cF_ : ∀ (j t : Nat) (S : List Value), w j = .inr (t, S) → S.length ≤ 1320 → x_c1 (w j) ≤ 1320 := fun j t S e hS => by rw [e]; exact hS
  obtain ⟨S, E, B, c, o, u, ⟨j0, j1, j2, j3⟩, j4, j5, j6, -⟩ := z9
  obtain ⟨⟨q1, q2, q3, q4, q5, q6, a0⟩, ⟨S', E', B', c', ln', o', ⟨a1, a2, a3, a4⟩, a5, a6, a7⟩, ⟨l, wt, Sy, Ee, Ro, Fs, Fi, Os, Ot, g1, g2, g3, g4, g5, g6, g7, g8, g9, g10, g11, g12, g13, g14, g15, g16, g17⟩⟩ := z10
  obtain ⟨mn, Tm, Bn, m1, m2_, m3_, m4_, m5_⟩ := z11
  have K : ∀ j, j < 53 → x_c1 (w j) ≤ 1320 := by
    intro j hj
    have hc : j = 0 ∨ j = 1 ∨ j = 2 ∨ j = 3 ∨ j = 4 ∨ j = 5 ∨ j = 6 ∨ j = 7 ∨ j = 8 ∨ j = 9 ∨ j = 10 ∨ j = 11 ∨ j = 12 ∨ j = 13 ∨ j = 14 ∨ j = 15 ∨ j = 16 ∨ j = 17 ∨ j = 18 ∨ j = 19 ∨ j = 20 ∨ j = 21 ∨ j = 22 ∨ j = 23 ∨ j = 24 ∨ j = 25 ∨ j = 26 ∨ j = 27 ∨ (28 ≤ j ∧ j ≤ 51) ∨ j = 52 := by omega
    rcases hc with rfl | rfl | rfl | rfl | rfl | rfl | rfl | rfl | rfl | rfl | rfl | rfl | rfl | rfl | rfl | rfl | rfl | rfl | rfl | rfl | rfl | rfl | rfl | rfl | rfl | rfl | rfl | rfl | ⟨b0, b1⟩ | rfl
    · exact cF_ _ _ _ z0 (Nat.le_of_ble_eq_true rfl)
    · exact cF_ _ _ _ z1 (Nat.le_of_ble_eq_true rfl)
    · exact cI_ _ _ _ z2 (by rw [z3.1]; decide)
    · rw [r1]
      show Rf.length ≤ 1320
      rw [r2]
      decide
    · exact cF_ _ _ _ z4 (Nat.le_of_ble_eq_true rfl)
    · exact cI_ _ _ _ z5 (by rw [z6.1]; decide)
    · exact cI_ _ _ _ v1 (by rw [v2]; decide)
    · exact cF_ _ _ _ j0 (Nat.le_of_ble_eq_true rfl)
    · exact cI_ _ _ _ j1 (by rw [j4]; decide)
    · exact cI_ _ _ _ j2 (by rw [j5]; decide)
    · exact cI_ _ _ _ j3 (by rw [j6]; decide)
    · exact cF_ _ _ _ a0 (Nat.le_of_ble_eq_true rfl)
    · exact cF_ _ _ _ a1 (Nat.le_of_ble_eq_true rfl)
    · exact cI_ _ _ _ a2 (by rw [a5]; decide)
    · exact cI_ _ _ _ a3 (by rw [a6]; decide)
    · exact cI_ _ _ _ a4 (by rw [a7]; decide)
    · exact cF_ _ _ _ g1 (Nat.le_of_ble_eq_true rfl)
    · exact cI_ _ _ _ g2 (by rw [g3]; decide)
    · exact cI_ _ _ _ g4 (by rw [g5]; decide)
    · exact cI_ _ _ _ g6 (by rw [g7]; decide)
    · exact cI_ _ _ _ g9 (by rw [g10]; decide)
    · exact cI_ _ _ _ g11 (by rw [g12]; decide)
    · exact cI_ _ _ _ g14 (by rw [g15]; decide)
    · exact cI_ _ _ _ g16 (by rw [g17]; decide)
    · exact cF_ _ _ _ m1 (Nat.le_of_ble_eq_true rfl)
    · exact cI_ _ _ _ m2_ (by rw [m3_]; decide)
    · exact cI_ _ _ _ m4_ (by rw [m5_]; decide)
    · exact cF_ _ _ _ hR.1.1 (Nat.le_of_ble_eq_true rfl)
    · obtain ⟨e1, e2⟩ := hR.1.2 j b0 b1
      refine cI_ _ _ _ e1 ?_
      have := lnR_le (j - 28) (by omega)
      rw [show j - 28 + 28 = j by omega] at this
      rw [e2]
      exact this
    · rw [hv]
      exact Nat.le_of_ble_eq_true rfl
  have := sl_c K z13 (N - 53) (by omega)
  rw [show 53 + (N - 53) = N by omega] at this
  exact this
theorem nal_1 (C : xF) (lv : xL) (h : xH) : x_nal 19 3 C (lv, [.int 1], h) = some (.inl (19, lv, [.ref (h.length + 3)], h ++ [lO 0])) := by
  unfold x_nal
  dsimp only
  rw [if_neg (by decide)]
  rfl
theorem hA_len : p_HA.length = 27 := by decide +kernel
theorem hB_len : p_HB.length = 52 := by decide +kernel
theorem hB_0 : p_HB ++ [lO 0] = p_H0 := rfl
theorem i_run {b L : Nat} {xs : Nat → Int32} (d : Nat) {r : Option Value × xH} (hg : Gx (q_kL b L xs) (d + 57) 23 ([(4, .int 0), (3, .ref 55), (2, .ref 30), (1, .ref 3), (0, .retAddr (b + 1))], [], hp w_0 53) r) : Gx (q_kL b L xs) (d + 57) 0 ([(0, .retAddr (b + 1))], [], []) r := by
  rw [hp_0] at hg
  refine Gx.run 30 (Cs.and (X67 (d + 49)) (X91 (d + 49))) (fun X mm => ?_) hg
  obtain ⟨ma, mb⟩ := mm
  dsimp only at mb
  simp [nx_l, x_isT, x_nw_, x_st, x_dup, x_cs, x_cl_, x_r0, x_sta, x_push, x_sti, x_keep, tL_0, tL_3, tL_4, tL_7, tL_8, tL_11, tL_12, tL_15, tL_16, tL_17, tL_19, tL_20, tL_21, nal_1, ma, mb, hA_len, hB_len, hB_0, Value.category]
theorem p_all (b L : Nat) (xs : Nat → Int32) (hL : L ≤ 3584) : ∃ (F n : Nat) (h' : xH), x_go (q_kL b L xs) (x_call x_tb F 57) n 0 ([(0, .retAddr (b + 1))], [], []) = some (some (.int 1), h') ∧ h'.length ≤ 601024 ∧ x_sl h' ≤ 7293034 := by
  have hV : LV b 0 [(4, .int 0), (3, .ref 55), (2, .ref 30), (1, .ref 3), (0, .retAddr (b + 1))] := by
    refine ⟨fun q hq => ?_, rfl, rfl, rfl, rfl, rfl⟩
    simp only [List.mem_cons, List.not_mem_nil, or_false] at hq
    rcases hq with rfl | rfl | rfl | rfl | rfl <;> rfl
  obtain ⟨w', N', Ds', T', U', m', x', hI, hN, g⟩ := lp (b := b) (L := L) (xs := xs) 0 hL 512 0 _ w_0 53 [] [] _ m_0 x_0 hV IV_0 (by decide) (by decide) (by omega) (by decide)
  obtain ⟨F, hF⟩ := i_run 0 g
  have h30 := hI.2.1.2.2.2.1
  have hs := hI.sl
  refine ⟨F, F, hp w' N', hF F 57 F (Nat.le_refl _) (by decide) (Nat.le_refl _), by rw [hp_len]; omega, by omega⟩
