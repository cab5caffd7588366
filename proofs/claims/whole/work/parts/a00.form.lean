/-! the class: a clause in a form; atoms compared, a literal closed -/

def vc (s : Int) : Int := if s < 99 then 128 + 4 * s else if s = 99 then 106 else s - 100
def sgV (s : Int) : Prop := 0 ≤ s ∧ s < 204 ∧ (s < 99 → s < 98)
theorem vc_inj {s t : Int} (h : sgV s) (g : sgV t) (e : vc s = vc t) : s = t := by
  obtain ⟨h1, h2, h3⟩ := h
  obtain ⟨g1, g2, g3⟩ := g
  unfold vc at e
  by_cases a1 : s < 99 <;> by_cases b1 : t < 99 <;> by_cases a2 : s = 99 <;> by_cases b2 : t = 99 <;> simp [a1, b1, a2, b2] at e <;> omega
theorem vc_rng {s : Int} (h : sgV s) : 0 ≤ vc s ∧ vc s < 520 := by
  obtain ⟨h1, h2, h3⟩ := h
  unfold vc
  split
  · next z =>
    have := h3 z
    omega
  · split <;> omega
theorem vs_vc {s : Int} (h : sgV s) : vs (vc s) := by
  obtain ⟨h1, h2, h3⟩ := h
  unfold vc
  split
  · next z =>
    have := h3 z
    exact Or.inl (by omega)
  · split
    · exact Or.inr (Or.inl rfl)
    · exact Or.inr (Or.inr (by omega))
theorem cv_vc {s : Int} (h : sgV s) : cv (vc s) = s := by
  obtain ⟨h1, h2, h3⟩ := h
  unfold cv vc
  by_cases a1 : s < 99
  · rw [if_pos a1, if_pos (by omega)]
    omega
  · by_cases a2 : s = 99
    · rw [if_neg a1, if_pos a2, if_neg (by decide), if_pos rfl, a2]
    · rw [if_neg a1, if_neg a2, if_neg (by omega), if_neg (by omega)]
      omega
def FW (C : List (Int × List Int)) (S E B : List Int) : Prop := (∀ j : Nat, j < (flt C).length → gZ S j = vc ((flt C).getD j 0)) ∧ (∀ k : Nat, k < C.length → gZ E k = stC C (k + 1)) ∧ ∀ k : Nat, k < C.length → gZ B k = (lC C k).1
def gV (C : List (Int × List Int)) : Prop := ∀ y ∈ C, (y.1 = 0 ∨ y.1 = 1) ∧ ∀ s ∈ y.2, sgV s
theorem gV.sg {C : List (Int × List Int)} (h : gV C) {j : Nat} (hj : j < (flt C).length) : sgV ((flt C).getD j 0) := by
  obtain ⟨y, hy, hz⟩ := flt_of (getD_mem hj)
  exact (h y hy).2 _ hz
theorem FW.st {C : List (Int × List Int)} {S E B : List Int} (h : FW C S E B) {k : Nat} (hk : k ≤ C.length) : stZ E k = stC C k := by
  unfold stZ
  cases k with
  | zero => rfl
  | succ k =>
    rw [if_neg (by omega), show ((k + 1 : Nat) : Int) - 1 = (k : Int) by omega]
    exact h.2.1 k (by omega)
theorem FW.at {C : List (Int × List Int)} {S E B : List Int} (h : FW C S E B) {k i : Nat} (hk : k < C.length) (hi : i < (lC C k).2.length) : gZ S ((stC C k : Int) + i) = vc ((lC C k).2.getD i 0) := by
  have := h.1 (stC C k + i) (stC_lt hk hi)
  rw [flt_at hk hi] at this
  rw [← this]
  congr 1
theorem FW.rng {C : List (Int × List Int)} {S E B : List Int} (h : FW C S E B) (hg : gV C) : ∀ i : Int, 0 ≤ i → i < (flt C).length → 0 ≤ gZ S i ∧ gZ S i < 100000 := fun i i0 i1 => by
  have := h.1 i.toNat (by omega)
  rw [show ((i.toNat : Nat) : Int) = i by omega] at this
  rw [this]
  have := vc_rng (hg.sg (j := i.toNat) (by omega))
  omega
theorem FW.ssZ {C : List (Int × List Int)} {S E B : List Int} (h : FW C S E B) (hg : gV C) {p q : Nat} (hpC : p < C.length) (hqC : q < C.length) (hl : (lC C p).2.length = (lC C q).2.length) : ssZ S (stC C p) (stC C q) (lC C p).2.length = decide ((lC C p).2 = (lC C q).2) := by
  rw [Bool.eq_iff_iff, ssZ_iff, decide_eq_true_iff]
  constructor
  · intro e
    refine getD_ext hl (fun i hi => ?_)
    have := e i hi
    rw [h.at hpC hi, h.at hqC (by omega)] at this
    exact vc_inj ((hg _ (lC_mem hpC)).2 _ (getD_mem hi)) ((hg _ (lC_mem hqC)).2 _ (getD_mem (by omega))) this
  · intro e i hi
    rw [h.at hpC hi, h.at hqC (by omega), e]
section FR
variable {w : Nat → xC} {N a : Nat} {S E B : List Int} {c l o : Int} {C : List (Int × List Int)}
theorem m18 (d : Nat) (hf : fo w a S E B c l o) (hN : fN N a S E B) (hW : FW C S E B) (hg : gV C) (el : l = (flt C).length) (lS : (flt C).length ≤ S.length) (lE : C.length ≤ E.length) (p q : Nat) (hpC : p < C.length) (hqC : q < C.length) : Xc (d + 2) 18 [.ref (a + 3), .int (iZ (p : Int)), .int (iZ (q : Int))] (hp w N) (some (.int (iZ (bZ (decide ((lC C p).2 = (lC C q).2))))), hp w N) := by
  have X1 := m11 d (p : Int) hf hN (by omega) (by omega)
  have X2 := m11 d (q : Int) hf hN (by omega) (by omega)
  rw [hW.st (by omega)] at X1 X2
  have sp := stC_succ hpC
  have sq := stC_succ hqC
  have mp := stC_mono (C := C) (show p + 1 ≤ C.length from hpC)
  have mq := stC_mono (C := C) (show q + 1 ≤ C.length from hqC)
  rw [stC_all] at mp mq
  have ep := hW.2.1 p hpC
  have eq := hW.2.1 q hqC
  have lS' := hN.2.1
  have lE' := hN.2.2.1
  have X3 := m19 d (stC C p) (stC C q) ((lC C p).2.length : Int) hf hN (by rw [el]; exact hW.rng hg) (by omega) (by omega) (by omega) (by omega) (by omega) (by omega) (by omega) (by omega)
  obtain ⟨fa, fs, fe, fg⟩ := hf
  obtain ⟨na, ls, le, lg⟩ := hN
  refine Xc.of rfl (by simp [lg_sl, Value.category]) ?_ (x_le.rf)
  have hc : c1 (lv_args 0 [.ref (a + 3), .int (iZ (p : Int)), .int (iZ (q : Int))]) := by simp [c1, lv_args, Value.category]
  have l0 : x_lk (lv_args 0 [.ref (a + 3), .int (iZ (p : Int)), .int (iZ (q : Int))]) 0 = some (.ref (a + 3)) := rfl
  have l1 : x_lk (lv_args 0 [.ref (a + 3), .int (iZ (p : Int)), .int (iZ (q : Int))]) 1 = some (.int (iZ (p : Int))) := rfl
  have l2 : x_lk (lv_args 0 [.ref (a + 3), .int (iZ (p : Int)), .int (iZ (q : Int))]) 2 = some (.int (iZ (q : Int))) := rfl
  generalize lv_args 0 [.ref (a + 3), .int (iZ (p : Int)), .int (iZ (q : Int))] = lv at hc l0 l1 l2
  obtain ⟨s, hs⟩ : ∃ s : Int, s = (stC C p : Int) := ⟨_, rfl⟩
  obtain ⟨t, ht⟩ : ∃ t : Int, t = (stC C q : Int) := ⟨_, rfl⟩
  obtain ⟨s', hs'⟩ : ∃ s : Int, s = (stC C (p + 1) : Int) := ⟨_, rfl⟩
  obtain ⟨t', ht'⟩ : ∃ t : Int, t = (stC C (q + 1) : Int) := ⟨_, rfl⟩
  have hl1 : s' - s = ((lC C p).2.length : Int) := by omega
  have hl2 : t' - t = ((lC C q).2.length : Int) := by omega
  by_cases hln : (lC C p).2.length = (lC C q).2.length
  · rw [decide_eq_true (by omega), Bool.true_and, show (((lC C p).2.length : Int)).toNat = (lC C p).2.length by omega, hW.ssZ hg hpC hqC hln] at X3
    rw [← hs, ← ht] at X3
    rw [← hs] at X1
    rw [← ht] at X2
    rw [← hs'] at ep
    rw [← ht'] at eq
    obtain ⟨n, hn⟩ : ∃ n : Int, n = ((lC C p).2.length : Int) := ⟨_, rfl⟩
    have hl1' : s' - s = n := by omega
    have hl2' : t' - t = n := by omega
    rw [← hn] at X3
    refine Gx.fin 80 ((X1.and X2).and X3) (fun K mm => ?_)
    obtain ⟨⟨mm1, mm2⟩, mm3⟩ := mm
    revert mm3
    cases decide ((lC C p).2 = (lC C q).2) with
    | false =>
      intro mm3
      rw [bZ_f] at mm3
      simp (disch := first | (refine c1_id ?_; assumption) | (refine c1_st rfl ?_; repeat (first | assumption | refine c1_st rfl ?_)) | omega) [nx_l, nx_r, nx_n, x_st, x_push, x_bin, x_div, x_un, x_dup, x_pop, x_dup2, x_goto, x_ifeq, x_ifne, x_iflt, x_ifge, x_ifgt, x_ifle, x_iceq, x_icne, x_iclt, x_icge, x_icgt, x_icle, x_ifnull, x_ifnonnull, x_ldi, x_lda, x_sti, x_sta, x_iinc, x_gf, x_pf, x_ald, x_ast, x_aln, x_len, x_cl_, x_cv, x_cs, x_rc, x_r0, x_isT, x_oi, x_rv, x_ri, x_ra, Value.category, t18_0, t18_1, t18_2, t18_5, t18_6, t18_7, t18_8, t18_11, t18_13, t18_14, t18_17, t18_18, t18_19, t18_20, t18_21, t18_22, t18_25, t18_26, t18_27, t18_29, t18_30, t18_33, t18_34, t18_35, t18_37, t18_38, t18_41, t18_42, t18_43, t18_44, t18_45, t18_48, t18_51, t18_52, t18_55, t18_56, lk_s, hp_get, hp_set, uH_at, uH_ne, uH_upd, uH_swap, iZ_add, iZ_sub, iZ_mul, iZ_neg, iZ_lt, iZ_le, iZ_eq, iZ_div, iZ_of, ix_Z, gZ_map, gZ_mapI, gZ_map', le_0, le_s, sZ_map, sZ_len, bZ_0, bZ_inj, bZ_t, bZ_f, nr_i, nr_0, nr_1, nr_b, ft_i, ft_b, ft_0, ft_1, zl_0, zl_1, l0, l1, l2, fa, fe, ep, eq, mm1, mm2, mm3, hl1', hl2', -List.filter_filter, -List.getElem?_map, -List.getD_eq_getElem?_getD]
    | true =>
      intro mm3
      rw [bZ_t] at mm3
      simp (disch := first | (refine c1_id ?_; assumption) | (refine c1_st rfl ?_; repeat (first | assumption | refine c1_st rfl ?_)) | omega) [nx_l, nx_r, nx_n, x_st, x_push, x_bin, x_div, x_un, x_dup, x_pop, x_dup2, x_goto, x_ifeq, x_ifne, x_iflt, x_ifge, x_ifgt, x_ifle, x_iceq, x_icne, x_iclt, x_icge, x_icgt, x_icle, x_ifnull, x_ifnonnull, x_ldi, x_lda, x_sti, x_sta, x_iinc, x_gf, x_pf, x_ald, x_ast, x_aln, x_len, x_cl_, x_cv, x_cs, x_rc, x_r0, x_isT, x_oi, x_rv, x_ri, x_ra, Value.category, t18_0, t18_1, t18_2, t18_5, t18_6, t18_7, t18_8, t18_11, t18_13, t18_14, t18_17, t18_18, t18_19, t18_20, t18_21, t18_22, t18_25, t18_26, t18_27, t18_29, t18_30, t18_33, t18_34, t18_35, t18_37, t18_38, t18_41, t18_42, t18_43, t18_44, t18_45, t18_48, t18_51, t18_52, t18_55, t18_56, lk_s, hp_get, hp_set, uH_at, uH_ne, uH_upd, uH_swap, iZ_add, iZ_sub, iZ_mul, iZ_neg, iZ_lt, iZ_le, iZ_eq, iZ_div, iZ_of, ix_Z, gZ_map, gZ_mapI, gZ_map', le_0, le_s, sZ_map, sZ_len, bZ_0, bZ_inj, bZ_t, bZ_f, nr_i, nr_0, nr_1, nr_b, ft_i, ft_b, ft_0, ft_1, zl_0, zl_1, l0, l1, l2, fa, fe, ep, eq, mm1, mm2, mm3, hl1', hl2', -List.filter_filter, -List.getElem?_map, -List.getD_eq_getElem?_getD]
  · rw [decide_eq_false (fun z => hln (by rw [z]))]
    rw [← hs] at X1
    rw [← ht] at X2
    rw [← hs'] at ep
    rw [← ht'] at eq
    obtain ⟨n, hn⟩ : ∃ n : Int, n = s' - s := ⟨_, rfl⟩
    obtain ⟨k, hk⟩ : ∃ k : Int, k = t' - t := ⟨_, rfl⟩
    have hn' : s' - s = n := hn.symm
    have hk' : t' - t = k := hk.symm
    have nk : ¬ n = k := by omega
    have n0 : 0 ≤ n := by omega
    have n9 : n < 20000 := by omega
    have k0 : 0 ≤ k := by omega
    have k9 : k < 20000 := by omega
    refine Gx.fin 80 (X1.and X2) (fun K mm => ?_)
    obtain ⟨mm1, mm2⟩ := mm
    simp (disch := first | (refine c1_id ?_; assumption) | (refine c1_st rfl ?_; repeat (first | assumption | refine c1_st rfl ?_)) | omega) [nx_l, nx_r, nx_n, x_st, x_push, x_bin, x_div, x_un, x_dup, x_pop, x_dup2, x_goto, x_ifeq, x_ifne, x_iflt, x_ifge, x_ifgt, x_ifle, x_iceq, x_icne, x_iclt, x_icge, x_icgt, x_icle, x_ifnull, x_ifnonnull, x_ldi, x_lda, x_sti, x_sta, x_iinc, x_gf, x_pf, x_ald, x_ast, x_aln, x_len, x_cl_, x_cv, x_cs, x_rc, x_r0, x_isT, x_oi, x_rv, x_ri, x_ra, Value.category, t18_0, t18_1, t18_2, t18_5, t18_6, t18_7, t18_8, t18_11, t18_13, t18_14, t18_17, t18_18, t18_19, t18_20, t18_21, t18_22, t18_25, t18_26, t18_27, t18_29, t18_30, t18_33, t18_34, t18_35, t18_37, t18_38, t18_41, t18_42, t18_43, t18_44, t18_45, t18_48, t18_51, t18_52, t18_55, t18_56, lk_s, hp_get, hp_set, uH_at, uH_ne, uH_upd, uH_swap, iZ_add, iZ_sub, iZ_mul, iZ_neg, iZ_lt, iZ_le, iZ_eq, iZ_div, iZ_of, ix_Z, gZ_map, gZ_mapI, gZ_map', le_0, le_s, sZ_map, sZ_len, bZ_0, bZ_inj, bZ_t, bZ_f, nr_i, nr_0, nr_1, nr_b, ft_i, ft_b, ft_0, ft_1, zl_0, zl_1, l0, l1, l2, fa, fe, ep, eq, mm1, mm2, hn', hk', nk, -List.filter_filter, -List.getElem?_map, -List.getD_eq_getElem?_getD]
end FR
