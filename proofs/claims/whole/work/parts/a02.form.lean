/-! the class: places of functions, sides of equations, trivial clauses -/

theorem fP_flt {C : List (Int × List Int)} {S E B : List Int} (h : FW C S E B) (hg : gV C) (lS : (flt C).length ≤ S.length) : fP S (flt C).length = flt C := by
  unfold fP
  rw [show (((flt C).length : Int)).toNat = (flt C).length by omega]
  refine getD_ext (by rw [List.length_map, List.length_take]; omega) (fun j hj => ?_)
  rw [List.length_map, List.length_take] at hj
  rw [List.getD_eq_getElem?_getD, List.getElem?_map, List.getElem?_take_of_lt (by omega), List.getElem?_eq_getElem (by omega)]
  have e := h.1 j (by omega)
  unfold gZ at e
  rw [show ((j : Int)).toNat = j by omega, List.getD_eq_getElem?_getD, List.getElem?_eq_getElem (by omega)] at e
  have e' : S[j] = vc ((flt C).getD j 0) := e
  show cv S[j] = _
  rw [e', cv_vc (hg.sg (by omega))]
theorem flt_seg {C : List (Int × List Int)} {k : Nat} (hk : k < C.length) : seg (flt C) (stC C k) ((stC C k : Int) + (lC C k).2.length) = (lC C k).2 := by
  have sm := stC_mono (C := C) (show k + 1 ≤ C.length from hk)
  rw [stC_all, stC_succ hk] at sm
  refine seg_of (by omega) (by omega) (fun j hj => ?_)
  unfold gZ
  rw [show ((stC C k : Int) + (j : Int)).toNat = stC C k + j by omega]
  exact flt_at hk hj
theorem eq_len {A : List Int} (h : Ts 1 A) (h9 : A.getD 0 0 = 99) : A.length = 1 + (tm A 1).length + (tm A (1 + (tm A 1).length)).length := by
  cases A with
  | nil => cases h
  | cons s u =>
    have hs : s = 99 := h9
    subst hs
    obtain ⟨n, hn, hT⟩ := Ts_cons h
    have hn0 : n = 0 := by omega
    subst hn0
    have e2 : 0 + ar 99 = 1 + 1 := rfl
    rw [e2] at hT
    obtain ⟨a1, a2, a3⟩ := tk_sp hT
    have e3 : tm (99 :: u) 1 = tk 1 u := rfl
    have e4 : tm (99 :: u) (1 + (tk 1 u).length) = tk 1 (u.drop (tk 1 u).length) := by
      unfold tm
      rw [Nat.add_comm, List.drop_succ_cons]
    rw [e3, e4]
    have e5 : tk 1 (u.drop (tk 1 u).length) = u.drop (tk 1 u).length := by
      have := tk_app (b := []) a2
      rw [List.append_nil] at this
      exact this
    rw [e5, List.length_cons, List.length_drop]
    have := congrArg List.length a3
    rw [List.length_append, List.length_drop] at this
    omega
theorem trI_t (D : List (Int × List Int)) (k : Nat) : ∀ (r q : Nat), trI D k r q true = true
  | 0, _ => rfl
  | r + 1, q => by
    show trI D k r (q + 1) (true || opS D k q) = true
    rw [Bool.true_or]
    exact trI_t D k r (q + 1)
theorem trO_t (D : List (Int × List Int)) : ∀ (r k : Nat), trO D r k true = true
  | 0, _ => rfl
  | r + 1, k => by
    show trO D r (k + 1) (trI D k k 0 (true || _)) = true
    rw [Bool.true_or, trI_t]
    exact trO_t D r (k + 1)
section FS
variable {w : Nat → xC} {N a : Nat} {S E B : List Int} {o : Int} {C : List (Int × List Int)}
theorem m14 (d : Nat) {c l : Int} (hf : fo w a S E B c l o) (hN : fN N a S E B) (hW : FW C S E B) (hg : gV C) (lS : (flt C).length ≤ S.length) (lE : C.length ≤ E.length) (k : Nat) (hk : k < C.length) (p : Int) (pr : -2147483648 ≤ p ∧ p < 2147483648) : Xc (d + 2) 14 [.ref (a + 3), .int (iZ (k : Int)), .int (iZ p)] (hp w N) (some (.int (iZ (bZ (decide (0 ≤ p ∧ 1 + p < (lC C k).2.length ∧ 99 ≤ (lC C k).2.getD (1 + p).toNat 0))))), hp w N) := by
  have X1 := m11 d (k : Int) hf hN (by omega) (by omega)
  rw [hW.st (by omega)] at X1
  have sk := stC_succ hk
  have mk := stC_mono (C := C) (show k + 1 ≤ C.length from hk)
  rw [stC_all] at mk
  have ek := hW.2.1 k hk
  obtain ⟨fa, fs, fe, fg⟩ := hf
  obtain ⟨na, ls, le, lg⟩ := hN
  refine Xc.of rfl (by simp [lg_sl, Value.category]) ?_ (x_le.rf)
  have hc : c1 (lv_args 0 [.ref (a + 3), .int (iZ (k : Int)), .int (iZ p)]) := by simp [c1, lv_args, Value.category]
  have l0 : x_lk (lv_args 0 [.ref (a + 3), .int (iZ (k : Int)), .int (iZ p)]) 0 = some (.ref (a + 3)) := rfl
  have l1 : x_lk (lv_args 0 [.ref (a + 3), .int (iZ (k : Int)), .int (iZ p)]) 1 = some (.int (iZ (k : Int))) := rfl
  have l2 : x_lk (lv_args 0 [.ref (a + 3), .int (iZ (k : Int)), .int (iZ p)]) 2 = some (.int (iZ p)) := rfl
  generalize lv_args 0 [.ref (a + 3), .int (iZ (k : Int)), .int (iZ p)] = lv at hc l0 l1 l2
  obtain ⟨s, hs⟩ : ∃ s : Int, s = (stC C k : Int) := ⟨_, rfl⟩
  obtain ⟨s', hs'⟩ : ∃ s : Int, s = (stC C (k + 1) : Int) := ⟨_, rfl⟩
  rw [← hs] at X1
  rw [← hs'] at ek
  have s0 : 0 ≤ s := by omega
  have s9 : s < 10000 := by omega
  have s9' : s' < 10001 := by omega
  have s0' : 0 ≤ s' := by omega
  by_cases b1 : p < 0
  · rw [decide_eq_false (by omega)]
    refine Gx.fin 60 X1 (fun K mm => ?_)
    simp (disch := first | (refine c1_id ?_; assumption) | (refine c1_st rfl ?_; repeat (first | assumption | refine c1_st rfl ?_)) | omega) [nx_l, nx_r, nx_n, x_st, x_push, x_bin, x_div, x_un, x_dup, x_pop, x_dup2, x_goto, x_ifeq, x_ifne, x_iflt, x_ifge, x_ifgt, x_ifle, x_iceq, x_icne, x_iclt, x_icge, x_icgt, x_icle, x_ifnull, x_ifnonnull, x_ldi, x_lda, x_sti, x_sta, x_iinc, x_gf, x_pf, x_ald, x_ast, x_aln, x_len, x_cl_, x_cv, x_cs, x_rc, x_r0, x_isT, x_oi, x_rv, x_ri, x_ra, Value.category, t14_0, t14_1, t14_2, t14_5, t14_6, t14_7, t14_8, t14_9, t14_12, t14_13, t14_14, t14_17, t14_18, t14_19, t14_20, t14_21, t14_24, t14_25, t14_28, t14_29, t14_30, t14_31, t14_32, t14_35, t14_38, t14_39, t14_42, t14_43, lk_s, hp_get, hp_set, uH_at, uH_ne, uH_upd, uH_swap, iZ_add, iZ_sub, iZ_mul, iZ_neg, iZ_lt, iZ_le, iZ_eq, iZ_div, iZ_of, ix_Z, gZ_map, gZ_mapI, gZ_map', le_0, le_s, sZ_map, sZ_len, bZ_0, bZ_inj, bZ_t, bZ_f, nr_i, nr_0, nr_1, nr_b, ft_i, ft_b, ft_0, ft_1, zl_0, zl_1, l0, l1, l2, fa, mm, b1, -List.filter_filter, -List.getElem?_map, -List.getD_eq_getElem?_getD]
  · by_cases b2 : s' - (s + 1) ≤ p
    · rw [decide_eq_false (by omega)]
      refine Gx.fin 60 X1 (fun K mm => ?_)
      simp (disch := first | (refine c1_id ?_; assumption) | (refine c1_st rfl ?_; repeat (first | assumption | refine c1_st rfl ?_)) | omega) [nx_l, nx_r, nx_n, x_st, x_push, x_bin, x_div, x_un, x_dup, x_pop, x_dup2, x_goto, x_ifeq, x_ifne, x_iflt, x_ifge, x_ifgt, x_ifle, x_iceq, x_icne, x_iclt, x_icge, x_icgt, x_icle, x_ifnull, x_ifnonnull, x_ldi, x_lda, x_sti, x_sta, x_iinc, x_gf, x_pf, x_ald, x_ast, x_aln, x_len, x_cl_, x_cv, x_cs, x_rc, x_r0, x_isT, x_oi, x_rv, x_ri, x_ra, Value.category, t14_0, t14_1, t14_2, t14_5, t14_6, t14_7, t14_8, t14_9, t14_12, t14_13, t14_14, t14_17, t14_18, t14_19, t14_20, t14_21, t14_24, t14_25, t14_28, t14_29, t14_30, t14_31, t14_32, t14_35, t14_38, t14_39, t14_42, t14_43, lk_s, hp_get, hp_set, uH_at, uH_ne, uH_upd, uH_swap, iZ_add, iZ_sub, iZ_mul, iZ_neg, iZ_lt, iZ_le, iZ_eq, iZ_div, iZ_of, ix_Z, gZ_map, gZ_mapI, gZ_map', le_0, le_s, sZ_map, sZ_len, bZ_0, bZ_inj, bZ_t, bZ_f, nr_i, nr_0, nr_1, nr_b, ft_i, ft_b, ft_0, ft_1, zl_0, zl_1, l0, l1, l2, fa, fe, ek, mm, b1, b2, -List.filter_filter, -List.getElem?_map, -List.getD_eq_getElem?_getD]
    · have hlt : (1 + p).toNat < (lC C k).2.length := by omega
      have eg := hW.at hk hlt
      rw [show (stC C k : Int) + (((1 + p).toNat : Nat) : Int) = s + 1 + p by omega] at eg
      have sgv := (hg _ (lC_mem hk)).2 _ (getD_mem hlt)
      have rg := vc_rng sgv
      obtain ⟨v, hv⟩ : ∃ v : Int, v = vc ((lC C k).2.getD (1 + p).toNat 0) := ⟨_, rfl⟩
      have X2 := m2 d w N v (by omega) (by omega)
      rw [← hv] at eg rg
      have i9 : s + 1 + p < S.length := by omega
      have var : (128 ≤ v) ↔ ((lC C k).2.getD (1 + p).toNat 0 < 99) := by
        have := cv_var (vs_vc sgv)
        rw [cv_vc sgv, ← hv] at this
        exact this.symm
      refine Gx.fin 60 (X1.and X2) (fun K mm => ?_)
      obtain ⟨mm1, mm2⟩ := mm
      by_cases b3 : 128 ≤ v
      · rw [decide_eq_true b3, bZ_t] at mm2
        rw [decide_eq_false (fun z => by have := var.mp b3; omega)]
        simp (disch := first | (refine c1_id ?_; assumption) | (refine c1_st rfl ?_; repeat (first | assumption | refine c1_st rfl ?_)) | omega) [nx_l, nx_r, nx_n, x_st, x_push, x_bin, x_div, x_un, x_dup, x_pop, x_dup2, x_goto, x_ifeq, x_ifne, x_iflt, x_ifge, x_ifgt, x_ifle, x_iceq, x_icne, x_iclt, x_icge, x_icgt, x_icle, x_ifnull, x_ifnonnull, x_ldi, x_lda, x_sti, x_sta, x_iinc, x_gf, x_pf, x_ald, x_ast, x_aln, x_len, x_cl_, x_cv, x_cs, x_rc, x_r0, x_isT, x_oi, x_rv, x_ri, x_ra, Value.category, t14_0, t14_1, t14_2, t14_5, t14_6, t14_7, t14_8, t14_9, t14_12, t14_13, t14_14, t14_17, t14_18, t14_19, t14_20, t14_21, t14_24, t14_25, t14_28, t14_29, t14_30, t14_31, t14_32, t14_35, t14_38, t14_39, t14_42, t14_43, lk_s, hp_get, hp_set, uH_at, uH_ne, uH_upd, uH_swap, iZ_add, iZ_sub, iZ_mul, iZ_neg, iZ_lt, iZ_le, iZ_eq, iZ_div, iZ_of, ix_Z, gZ_map, gZ_mapI, gZ_map', le_0, le_s, sZ_map, sZ_len, bZ_0, bZ_inj, bZ_t, bZ_f, nr_i, nr_0, nr_1, nr_b, ft_i, ft_b, ft_0, ft_1, zl_0, zl_1, l0, l1, l2, fa, fs, fe, ek, eg, mm1, mm2, b1, b2, -List.filter_filter, -List.getElem?_map, -List.getD_eq_getElem?_getD]
      · rw [decide_eq_false b3, bZ_f] at mm2
        rw [decide_eq_true ⟨by omega, by omega, by
          by_cases z : (lC C k).2.getD (1 + p).toNat 0 < 99
          · exact absurd (var.mpr z) b3
          · omega⟩]
        simp (disch := first | (refine c1_id ?_; assumption) | (refine c1_st rfl ?_; repeat (first | assumption | refine c1_st rfl ?_)) | omega) [nx_l, nx_r, nx_n, x_st, x_push, x_bin, x_div, x_un, x_dup, x_pop, x_dup2, x_goto, x_ifeq, x_ifne, x_iflt, x_ifge, x_ifgt, x_ifle, x_iceq, x_icne, x_iclt, x_icge, x_icgt, x_icle, x_ifnull, x_ifnonnull, x_ldi, x_lda, x_sti, x_sta, x_iinc, x_gf, x_pf, x_ald, x_ast, x_aln, x_len, x_cl_, x_cv, x_cs, x_rc, x_r0, x_isT, x_oi, x_rv, x_ri, x_ra, Value.category, t14_0, t14_1, t14_2, t14_5, t14_6, t14_7, t14_8, t14_9, t14_12, t14_13, t14_14, t14_17, t14_18, t14_19, t14_20, t14_21, t14_24, t14_25, t14_28, t14_29, t14_30, t14_31, t14_32, t14_35, t14_38, t14_39, t14_42, t14_43, lk_s, hp_get, hp_set, uH_at, uH_ne, uH_upd, uH_swap, iZ_add, iZ_sub, iZ_mul, iZ_neg, iZ_lt, iZ_le, iZ_eq, iZ_div, iZ_of, ix_Z, gZ_map, gZ_mapI, gZ_map', le_0, le_s, sZ_map, sZ_len, bZ_0, bZ_inj, bZ_t, bZ_f, nr_i, nr_0, nr_1, nr_b, ft_i, ft_b, ft_0, ft_1, zl_0, zl_1, l0, l1, l2, fa, fs, fe, ek, eg, mm1, mm2, b1, b2, -List.filter_filter, -List.getElem?_map, -List.getD_eq_getElem?_getD]
theorem m25 (d : Nat) {c : Int} (hf : fo w a S E B c (flt C).length o) (hN : fN N a S E B) (hW : FW C S E B) (hg : gV C) (lS : (flt C).length ≤ S.length) (lE : C.length ≤ E.length) (k : Nat) (hk : k < C.length) (hT : Ts 1 (lC C k).2) (h99 : (lC C k).2.getD 0 0 = 99) : Xc (d + 3) 25 [.ref (a + 3), .int (iZ (k : Int))] (hp w N) (some (.int (iZ (bZ (decide (tm (lC C k).2 1 = tm (lC C k).2 (1 + (tm (lC C k).2 1).length)))))), hp w N) := by
  have X1 := m11 (d + 1) (k : Int) hf hN (by omega) (by omega)
  rw [hW.st (by omega)] at X1
  have sk := stC_succ hk
  have mk := stC_mono (C := C) (show k + 1 ≤ C.length from hk)
  rw [stC_all] at mk
  have ek := hW.2.1 k hk
  obtain ⟨t1, t2⟩ := two_99 hT h99
  have T1 := Ts_at hT t1
  have T2 := Ts_at hT t2
  have en := eq_len hT h99
  have lS9 := hN.2.1
  have etm : tm (flt C) ((stC C k : Int) + 1).toNat = tm (lC C k).2 1 := by
    have := tm_in (S := flt C) (u := (lC C k).2) (a := (stC C k : Int)) (by omega) (flt_seg hk) t1 T1
    rw [show (stC C k : Int) + ((1 : Nat) : Int) = (stC C k : Int) + 1 by omega] at this
    exact this
  have X2 := m20 d ((stC C k : Int) + 1) hf hN (by omega) (by omega) (fun i i0 i1 => by
    have := hW.1 i.toNat (by omega)
    rw [show ((i.toNat : Nat) : Int) = i by omega] at this
    rw [this]
    exact vs_vc (hg.sg (by omega))) (by omega) (by omega) (by rw [fP_flt hW hg lS, etm]; exact T1)
  rw [fP_flt hW hg lS, etm] at X2
  have X3 := m19 (d + 1) ((stC C k : Int) + 1) ((stC C k : Int) + 1 + (tm (lC C k).2 1).length) ((tm (lC C k).2 1).length : Int) hf hN (hW.rng hg) (by omega) (by omega) (by omega) (by omega) (by omega) (by omega) (by omega) (by omega)
  obtain ⟨n1, hn1⟩ : ∃ n : Nat, n = (tm (lC C k).2 1).length := ⟨_, rfl⟩
  obtain ⟨n2, hn2⟩ : ∃ n : Nat, n = (tm (lC C k).2 (1 + (tm (lC C k).2 1).length)).length := ⟨_, rfl⟩
  rw [← hn1] at X2 X3
  have same : n2 = n1 → ssZ S ((stC C k : Int) + 1) ((stC C k : Int) + 1 + (n1 : Int)) n1 = decide (tm (lC C k).2 1 = tm (lC C k).2 (1 + (tm (lC C k).2 1).length)) := fun hnn => by
    have g1 : ∀ i : Nat, i < n1 → gZ S ((stC C k : Int) + 1 + i) = vc ((tm (lC C k).2 1).getD i 0) := fun i hi => by
      have := hW.at hk (i := 1 + i) (by omega)
      rw [show (stC C k : Int) + ((1 + i : Nat) : Int) = (stC C k : Int) + 1 + (i : Int) by omega] at this
      rw [this]
      have e := tm_get (S := (lC C k).2) (a := 1) (by omega) (i := i) (by show i < (tm (lC C k).2 1).length; omega)
      unfold gZ at e
      rw [show ((1 : Int) + (i : Int)).toNat = 1 + i by omega] at e
      rw [e]
      rfl
    have g2 : ∀ i : Nat, i < n2 → gZ S ((stC C k : Int) + 1 + (n1 : Int) + i) = vc ((tm (lC C k).2 (1 + (tm (lC C k).2 1).length)).getD i 0) := fun i hi => by
      have := hW.at hk (i := 1 + n1 + i) (by omega)
      rw [show (stC C k : Int) + ((1 + n1 + i : Nat) : Int) = (stC C k : Int) + 1 + (n1 : Int) + (i : Int) by omega] at this
      rw [this]
      have e := tm_get (S := (lC C k).2) (a := ((1 + n1 : Nat) : Int)) (by omega) (i := i) (by rw [show (((1 + n1 : Nat)) : Int).toNat = 1 + (tm (lC C k).2 1).length by omega]; omega)
      unfold gZ at e
      rw [show ((((1 + n1 : Nat)) : Int) + (i : Int)).toNat = 1 + n1 + i by omega, show (((1 + n1 : Nat)) : Int).toNat = 1 + (tm (lC C k).2 1).length by omega] at e
      rw [e]
    have sg1 : ∀ i : Nat, i < n1 → sgV ((tm (lC C k).2 1).getD i 0) := fun i hi => (hg _ (lC_mem hk)).2 _ (tm_mem (getD_mem (by omega)))
    have sg2 : ∀ i : Nat, i < n2 → sgV ((tm (lC C k).2 (1 + (tm (lC C k).2 1).length)).getD i 0) := fun i hi => (hg _ (lC_mem hk)).2 _ (tm_mem (getD_mem (by omega)))
    rw [Bool.eq_iff_iff, ssZ_iff, decide_eq_true_iff]
    constructor
    · intro e
      refine getD_ext (by omega) (fun i hi => ?_)
      have := e i (by omega)
      rw [g1 i (by omega), g2 i (by omega)] at this
      exact vc_inj (sg1 i (by omega)) (sg2 i (by omega)) this
    · intro e i hi
      rw [g1 i hi, g2 i (by omega)]
      exact congrArg (fun z : List Int => vc (z.getD i 0)) e
  obtain ⟨fa, fs, fe, fg⟩ := hf
  obtain ⟨na, ls, le, lg⟩ := hN
  refine Xc.of rfl (by simp [lg_sl, Value.category]) ?_ (x_le.rf)
  have hc : c1 (lv_args 0 [.ref (a + 3), .int (iZ (k : Int))]) := by simp [c1, lv_args, Value.category]
  have l0 : x_lk (lv_args 0 [.ref (a + 3), .int (iZ (k : Int))]) 0 = some (.ref (a + 3)) := rfl
  have l1 : x_lk (lv_args 0 [.ref (a + 3), .int (iZ (k : Int))]) 1 = some (.int (iZ (k : Int))) := rfl
  generalize lv_args 0 [.ref (a + 3), .int (iZ (k : Int))] = lv at hc l0 l1
  obtain ⟨s, hs⟩ : ∃ s : Int, s = (stC C k : Int) := ⟨_, rfl⟩
  obtain ⟨s', hs'⟩ : ∃ s : Int, s = (stC C (k + 1) : Int) := ⟨_, rfl⟩
  obtain ⟨y, hy⟩ : ∃ y : Int, y = s + 1 + (n1 : Int) := ⟨_, rfl⟩
  have r1 : y - (s + 1) = (n1 : Int) := by omega
  have r2 : s' - y = (n2 : Int) := by omega
  rw [← hs, ← hy] at X2
  rw [← hs] at X1
  rw [← hs'] at ek
  by_cases hnn : n2 = n1
  · have hs2 := same hnn
    rw [decide_eq_true (by omega), Bool.true_and, show ((n1 : Int)).toNat = n1 by omega, hs2, ← hs, ← hy] at X3
    refine Gx.fin 80 ((X1.and X2).and X3) (fun K mm => ?_)
    obtain ⟨⟨mm1, mm2⟩, mm3⟩ := mm
    obtain ⟨n, hn⟩ : ∃ n : Int, n = (n1 : Int) := ⟨_, rfl⟩
    rw [← hn] at mm3 r1
    rw [hnn, ← hn] at r2
    have nr : n < 20000 := by omega
    have nr0 : 0 ≤ n := by omega
    revert mm3
    cases decide (tm (lC C k).2 1 = tm (lC C k).2 (1 + (tm (lC C k).2 1).length)) with
    | false =>
      intro mm3
      rw [bZ_f] at mm3
      simp (disch := first | (refine c1_id ?_; assumption) | (refine c1_st rfl ?_; repeat (first | assumption | refine c1_st rfl ?_)) | omega) [nx_l, nx_r, nx_n, x_st, x_push, x_bin, x_div, x_un, x_dup, x_pop, x_dup2, x_goto, x_ifeq, x_ifne, x_iflt, x_ifge, x_ifgt, x_ifle, x_iceq, x_icne, x_iclt, x_icge, x_icgt, x_icle, x_ifnull, x_ifnonnull, x_ldi, x_lda, x_sti, x_sta, x_iinc, x_gf, x_pf, x_ald, x_ast, x_aln, x_len, x_cl_, x_cv, x_cs, x_rc, x_r0, x_isT, x_oi, x_rv, x_ri, x_ra, Value.category, t25_0, t25_1, t25_2, t25_5, t25_6, t25_7, t25_8, t25_9, t25_10, t25_13, t25_14, t25_15, t25_16, t25_17, t25_18, t25_21, t25_22, t25_23, t25_24, t25_25, t25_28, t25_29, t25_30, t25_31, t25_32, t25_33, t25_34, t25_37, t25_40, t25_41, t25_44, t25_45, lk_s, hp_get, hp_set, uH_at, uH_ne, uH_upd, uH_swap, iZ_add, iZ_sub, iZ_mul, iZ_neg, iZ_lt, iZ_le, iZ_eq, iZ_div, iZ_of, ix_Z, gZ_map, gZ_mapI, gZ_map', le_0, le_s, sZ_map, sZ_len, bZ_0, bZ_inj, bZ_t, bZ_f, nr_i, nr_0, nr_1, nr_b, ft_i, ft_b, ft_0, ft_1, zl_0, zl_1, l0, l1, fa, fe, ek, mm1, mm2, mm3, r1, r2, -List.filter_filter, -List.getElem?_map, -List.getD_eq_getElem?_getD]
    | true =>
      intro mm3
      rw [bZ_t] at mm3
      simp (disch := first | (refine c1_id ?_; assumption) | (refine c1_st rfl ?_; repeat (first | assumption | refine c1_st rfl ?_)) | omega) [nx_l, nx_r, nx_n, x_st, x_push, x_bin, x_div, x_un, x_dup, x_pop, x_dup2, x_goto, x_ifeq, x_ifne, x_iflt, x_ifge, x_ifgt, x_ifle, x_iceq, x_icne, x_iclt, x_icge, x_icgt, x_icle, x_ifnull, x_ifnonnull, x_ldi, x_lda, x_sti, x_sta, x_iinc, x_gf, x_pf, x_ald, x_ast, x_aln, x_len, x_cl_, x_cv, x_cs, x_rc, x_r0, x_isT, x_oi, x_rv, x_ri, x_ra, Value.category, t25_0, t25_1, t25_2, t25_5, t25_6, t25_7, t25_8, t25_9, t25_10, t25_13, t25_14, t25_15, t25_16, t25_17, t25_18, t25_21, t25_22, t25_23, t25_24, t25_25, t25_28, t25_29, t25_30, t25_31, t25_32, t25_33, t25_34, t25_37, t25_40, t25_41, t25_44, t25_45, lk_s, hp_get, hp_set, uH_at, uH_ne, uH_upd, uH_swap, iZ_add, iZ_sub, iZ_mul, iZ_neg, iZ_lt, iZ_le, iZ_eq, iZ_div, iZ_of, ix_Z, gZ_map, gZ_mapI, gZ_map', le_0, le_s, sZ_map, sZ_len, bZ_0, bZ_inj, bZ_t, bZ_f, nr_i, nr_0, nr_1, nr_b, ft_i, ft_b, ft_0, ft_1, zl_0, zl_1, l0, l1, fa, fe, ek, mm1, mm2, mm3, r1, r2, -List.filter_filter, -List.getElem?_map, -List.getD_eq_getElem?_getD]
  · rw [decide_eq_false (fun z => hnn (by rw [hn1, hn2, ← z]))]
    obtain ⟨p, hpp⟩ : ∃ p : Int, p = (n1 : Int) := ⟨_, rfl⟩
    obtain ⟨q, hqq⟩ : ∃ q : Int, q = (n2 : Int) := ⟨_, rfl⟩
    rw [← hpp] at r1
    rw [← hqq] at r2
    have npq : ¬ p = q := by omega
    have p0 : 0 ≤ p := by omega
    have p9 : p < 20000 := by omega
    have q0 : 0 ≤ q := by omega
    have q9 : q < 20000 := by omega
    refine Gx.fin 80 (X1.and X2) (fun K mm => ?_)
    obtain ⟨mm1, mm2⟩ := mm
    simp (disch := first | (refine c1_id ?_; assumption) | (refine c1_st rfl ?_; repeat (first | assumption | refine c1_st rfl ?_)) | omega) [nx_l, nx_r, nx_n, x_st, x_push, x_bin, x_div, x_un, x_dup, x_pop, x_dup2, x_goto, x_ifeq, x_ifne, x_iflt, x_ifge, x_ifgt, x_ifle, x_iceq, x_icne, x_iclt, x_icge, x_icgt, x_icle, x_ifnull, x_ifnonnull, x_ldi, x_lda, x_sti, x_sta, x_iinc, x_gf, x_pf, x_ald, x_ast, x_aln, x_len, x_cl_, x_cv, x_cs, x_rc, x_r0, x_isT, x_oi, x_rv, x_ri, x_ra, Value.category, t25_0, t25_1, t25_2, t25_5, t25_6, t25_7, t25_8, t25_9, t25_10, t25_13, t25_14, t25_15, t25_16, t25_17, t25_18, t25_21, t25_22, t25_23, t25_24, t25_25, t25_28, t25_29, t25_30, t25_31, t25_32, t25_33, t25_34, t25_37, t25_40, t25_41, t25_44, t25_45, lk_s, hp_get, hp_set, uH_at, uH_ne, uH_upd, uH_swap, iZ_add, iZ_sub, iZ_mul, iZ_neg, iZ_lt, iZ_le, iZ_eq, iZ_div, iZ_of, ix_Z, gZ_map, gZ_mapI, gZ_map', le_0, le_s, sZ_map, sZ_len, bZ_0, bZ_inj, bZ_t, bZ_f, nr_i, nr_0, nr_1, nr_b, ft_i, ft_b, ft_0, ft_1, zl_0, zl_1, l0, l1, fa, fe, ek, mm1, mm2, r1, r2, npq, -List.filter_filter, -List.getElem?_map, -List.getD_eq_getElem?_getD]
end FS
