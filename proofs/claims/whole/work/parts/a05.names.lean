/-! the class: variables called anew, to the end -/

def rn1 (q : List Int) (s : Int) : Int := if s < 99 then (q.idxOf s : Int) else s
section NW
variable {w : Nat → xC} {N a : Nat} {E B : List Int} {c o : Int} {C : List (Int × List Int)}
theorem l21b (d : Nat) (na : a + 3 < N) (hg : gV C) (f9 : (flt C).length ≤ 80) (q : List Int) (hqv : ∀ v ∈ flt C, v < 99 → v ∈ q) (q9 : q.length ≤ 80) : ∀ (r p : Nat) (S : List Int) (w : Nat → xC) (lv : xL), p + r = (flt C).length → (flt C).length ≤ S.length → S.length < 10000 → (∀ j : Nat, j < p → gZ S j = vc (rn1 q ((flt C).getD j 0))) → (∀ j : Nat, p ≤ j → j < (flt C).length → gZ S j = mrk q ((flt C).getD j 0)) → fo w a S E B c (flt C).length o → c1 lv → x_lk lv 0 = some (.ref (a + 3)) → x_lk lv 1 = some (.int (iZ (q.length : Int))) → x_lk lv 2 = some (.int (iZ (p : Int))) → ∃ S' : List Int, S'.length = S.length ∧ (∀ j : Nat, j < (flt C).length → gZ S' j = vc (rn1 q ((flt C).getD j 0))) ∧ Gx q_k21 (d + 1) 48 (lv, [], hp w N) (some (.int (iZ (q.length : Int))), hp (uH w (a + 1) (cI 0 S')) N) := by
  intro r
  induction r with
  | zero =>
    intro p S w lv hp1 lS lS9 h1 h2 hf hc l0 l1 l2
    obtain ⟨fa, fs, fe, fg⟩ := hf
    have ep : p = (flt C).length := by omega
    refine ⟨S, rfl, fun j hj => h1 j (by omega), ?_⟩
    rw [uH_self fs]
    subst ep
    have f99 : ((flt C).length : Int) ≤ 80 := by omega
    refine Gx.fin 20 Cs.tt (fun K _ => ?_)
    simp (disch := first | (refine c1_id ?_; assumption) | (refine c1_st rfl ?_; repeat (first | assumption | refine c1_st rfl ?_)) | omega) [nx_l, nx_r, nx_n, x_st, x_push, x_bin, x_div, x_un, x_dup, x_pop, x_dup2, x_goto, x_ifeq, x_ifne, x_iflt, x_ifge, x_ifgt, x_ifle, x_iceq, x_icne, x_iclt, x_icge, x_icgt, x_icle, x_ifnull, x_ifnonnull, x_ldi, x_lda, x_sti, x_sta, x_iinc, x_gf, x_pf, x_ald, x_ast, x_aln, x_len, x_cl_, x_cv, x_cs, x_rc, x_r0, x_isT, x_oi, x_rv, x_ri, x_ra, Value.category, t21_0, t21_1, t21_2, t21_3, t21_4, t21_5, t21_6, t21_9, t21_12, t21_13, t21_16, t21_17, t21_18, t21_21, t21_24, t21_27, t21_28, t21_29, t21_30, t21_33, t21_34, t21_35, t21_36, t21_37, t21_40, t21_43, t21_46, t21_47, t21_48, t21_49, t21_50, t21_53, t21_56, t21_57, t21_60, t21_61, t21_62, t21_65, t21_66, t21_69, t21_70, t21_71, t21_74, t21_75, t21_76, t21_77, t21_78, t21_79, t21_82, t21_83, t21_86, t21_89, t21_90, lk_s, hp_get, hp_set, uH_at, uH_ne, uH_upd, uH_swap, iZ_add, iZ_sub, iZ_mul, iZ_neg, iZ_lt, iZ_le, iZ_eq, iZ_div, iZ_of, ix_Z, gZ_map, gZ_mapI, gZ_map', le_0, le_s, sZ_map, sZ_len, bZ_0, bZ_inj, bZ_t, bZ_f, nr_i, nr_0, nr_1, nr_b, ft_i, ft_b, ft_0, ft_1, zl_0, zl_1, l0, l1, l2, fa, -List.filter_filter, -List.getElem?_map, -List.getD_eq_getElem?_getD]
  | succ r ih =>
    intro p S w lv hp1 lS lS9 h1 h2 hf hc l0 l1 l2
    have hf' := hf
    obtain ⟨fa, fs, fe, fg⟩ := hf'
    have hpl : p < (flt C).length := by omega
    have hsp := h2 p (Nat.le_refl _) hpl
    have sgp := hg.sg hpl
    obtain ⟨s, hs⟩ : ∃ s, s = (flt C).getD p 0 := ⟨_, rfl⟩
    rw [← hs] at hsp sgp
    have hmem : s ∈ flt C := by rw [hs]; exact getD_mem hpl
    have mr := mrk_rng sgp (q := q) (by omega)
    have b1 : ¬ ((flt C).length : Int) ≤ (p : Int) := by omega
    have f99 : ((flt C).length : Int) ≤ 80 := by omega
    have C2 := c1_st (i := 2) (v := .int (iZ ((p : Int) + 1))) rfl hc
    by_cases hv : s < 99
    · have hq := hqv s hmem hv
      have em : mrk q s = -((q.idxOf s : Int) + 1) := if_pos ⟨hv, hq⟩
      have er : rn1 q s = (q.idxOf s : Int) := if_pos hv
      have hi := List.idxOf_lt_length_iff.mpr hq
      rw [em] at hsp
      obtain ⟨ix, hix⟩ : ∃ ix : Int, ix = (q.idxOf s : Int) := ⟨_, rfl⟩
      rw [← hix] at hsp er
      have ix0 : 0 ≤ ix := by omega
      have ix9 : ix < 80 := by omega
      have X := m1 d w N ix
      have evc : vc ix = 128 + 4 * ix := if_pos (by omega)
      obtain ⟨w1, hw1⟩ : ∃ w1, w1 = uH w (a + 1) (cI 0 (sZ S p (128 + 4 * ix))) := ⟨_, rfl⟩
      obtain ⟨S', a1, a2, a3⟩ := ih (p + 1) (sZ S p (128 + 4 * ix)) w1 ((2, .int (iZ ((p : Int) + 1))) :: lv.filter (x_keep 2)) (by omega) (by rw [sZ_len]; exact lS) (by rw [sZ_len]; exact lS9) (fun j hj => by
        rw [gZ_sZ (by omega) (by omega) (by omega)]
        by_cases ej : (p : Int) = (j : Int)
        · have : j = p := by omega
          subst this
          rw [if_pos rfl, ← hs, er, evc]
        · rw [if_neg ej]
          exact h1 j (by omega)) (fun j j0 j1 => by
        rw [gZ_sZ (by omega) (by omega) (by omega), if_neg (by omega)]
        exact h2 j (by omega) j1) (by rw [hw1]; exact hf.set) C2 (by rw [lk_s hc]; exact l0) (by rw [lk_s hc]; exact l1) (by rw [lk_s hc]; rfl)
      have ew : uH w1 (a + 1) (cI 0 S') = uH w (a + 1) (cI 0 S') := by rw [hw1, uH_upd]
      rw [ew] at a3
      refine ⟨S', by rw [a1, sZ_len], a2, Gx.run 60 X (fun K mm => ?_) a3⟩
      rw [hw1]
      obtain ⟨g, hgg⟩ : ∃ g : Int, g = -(ix + 1) := ⟨_, rfl⟩
      rw [← hgg] at hsp
      have eg : -g - 1 = ix := by omega
      have g0 : ¬ 0 ≤ g := by omega
      have g1 : -2147483648 ≤ g := by omega
      simp (disch := first | (refine c1_id ?_; assumption) | (refine c1_st rfl ?_; repeat (first | assumption | refine c1_st rfl ?_)) | omega) [nx_l, nx_r, nx_n, x_st, x_push, x_bin, x_div, x_un, x_dup, x_pop, x_dup2, x_goto, x_ifeq, x_ifne, x_iflt, x_ifge, x_ifgt, x_ifle, x_iceq, x_icne, x_iclt, x_icge, x_icgt, x_icle, x_ifnull, x_ifnonnull, x_ldi, x_lda, x_sti, x_sta, x_iinc, x_gf, x_pf, x_ald, x_ast, x_aln, x_len, x_cl_, x_cv, x_cs, x_rc, x_r0, x_isT, x_oi, x_rv, x_ri, x_ra, Value.category, t21_0, t21_1, t21_2, t21_3, t21_4, t21_5, t21_6, t21_9, t21_12, t21_13, t21_16, t21_17, t21_18, t21_21, t21_24, t21_27, t21_28, t21_29, t21_30, t21_33, t21_34, t21_35, t21_36, t21_37, t21_40, t21_43, t21_46, t21_47, t21_48, t21_49, t21_50, t21_53, t21_56, t21_57, t21_60, t21_61, t21_62, t21_65, t21_66, t21_69, t21_70, t21_71, t21_74, t21_75, t21_76, t21_77, t21_78, t21_79, t21_82, t21_83, t21_86, t21_89, t21_90, lk_s, hp_get, hp_set, uH_at, uH_ne, uH_upd, uH_swap, iZ_add, iZ_sub, iZ_mul, iZ_neg, iZ_lt, iZ_le, iZ_eq, iZ_div, iZ_of, ix_Z, gZ_map, gZ_mapI, gZ_map', le_0, le_s, sZ_map, sZ_len, bZ_0, bZ_inj, bZ_t, bZ_f, nr_i, nr_0, nr_1, nr_b, ft_i, ft_b, ft_0, ft_1, zl_0, zl_1, l0, l1, l2, fa, fs, hsp, b1, g0, eg, mm, -List.filter_filter, -List.getElem?_map, -List.getD_eq_getElem?_getD]
    · have em : mrk q s = vc s := if_neg (fun z => hv z.1)
      have er : rn1 q s = s := if_neg hv
      rw [em] at hsp
      have rv := vc_rng sgp
      obtain ⟨S', a1, a2, a3⟩ := ih (p + 1) S w ((2, .int (iZ ((p : Int) + 1))) :: lv.filter (x_keep 2)) (by omega) lS lS9 (fun j hj => by
        by_cases ej : j = p
        · rw [ej, hsp, ← hs, er]
        · exact h1 j (by omega)) (fun j j0 j1 => h2 j (by omega) j1) hf C2 (by rw [lk_s hc]; exact l0) (by rw [lk_s hc]; exact l1) (by rw [lk_s hc]; rfl)
      refine ⟨S', a1, a2, Gx.run 60 Cs.tt (fun K _ => ?_) a3⟩
      obtain ⟨v, hvv⟩ : ∃ v : Int, v = vc s := ⟨_, rfl⟩
      rw [← hvv] at hsp rv
      have v0 : 0 ≤ v := rv.1
      simp (disch := first | (refine c1_id ?_; assumption) | (refine c1_st rfl ?_; repeat (first | assumption | refine c1_st rfl ?_)) | omega) [nx_l, nx_r, nx_n, x_st, x_push, x_bin, x_div, x_un, x_dup, x_pop, x_dup2, x_goto, x_ifeq, x_ifne, x_iflt, x_ifge, x_ifgt, x_ifle, x_iceq, x_icne, x_iclt, x_icge, x_icgt, x_icle, x_ifnull, x_ifnonnull, x_ldi, x_lda, x_sti, x_sta, x_iinc, x_gf, x_pf, x_ald, x_ast, x_aln, x_len, x_cl_, x_cv, x_cs, x_rc, x_r0, x_isT, x_oi, x_rv, x_ri, x_ra, Value.category, t21_0, t21_1, t21_2, t21_3, t21_4, t21_5, t21_6, t21_9, t21_12, t21_13, t21_16, t21_17, t21_18, t21_21, t21_24, t21_27, t21_28, t21_29, t21_30, t21_33, t21_34, t21_35, t21_36, t21_37, t21_40, t21_43, t21_46, t21_47, t21_48, t21_49, t21_50, t21_53, t21_56, t21_57, t21_60, t21_61, t21_62, t21_65, t21_66, t21_69, t21_70, t21_71, t21_74, t21_75, t21_76, t21_77, t21_78, t21_79, t21_82, t21_83, t21_86, t21_89, t21_90, lk_s, hp_get, hp_set, uH_at, uH_ne, uH_upd, uH_swap, iZ_add, iZ_sub, iZ_mul, iZ_neg, iZ_lt, iZ_le, iZ_eq, iZ_div, iZ_of, ix_Z, gZ_map, gZ_mapI, gZ_map', le_0, le_s, sZ_map, sZ_len, bZ_0, bZ_inj, bZ_t, bZ_f, nr_i, nr_0, nr_1, nr_b, ft_i, ft_b, ft_0, ft_1, zl_0, zl_1, l0, l1, l2, fa, fs, hsp, b1, v0, -List.filter_filter, -List.getElem?_map, -List.getD_eq_getElem?_getD]
theorem m21 (d : Nat) {S : List Int} (hf : fo w a S E B c (flt C).length o) (na : a + 3 < N) (hW : FW C S E B) (hg : gV C) (f9 : (flt C).length ≤ 80) (lS : (flt C).length ≤ S.length) (lS9 : S.length < 10000) : ∃ S' : List Int, S'.length = S.length ∧ FW (rnD C) S' E B ∧ Xc (d + 2) 21 [.ref (a + 3)] (hp w N) (some (.int (iZ ((fvs [] (flt C)).length : Int))), hp (uH w (a + 1) (cI 0 S')) N) := by
  have hf' := hf
  obtain ⟨fa, fs, fe, fg⟩ := hf'
  have hc : c1 (lv_args 0 [.ref (a + 3)]) := by simp [c1, lv_args, Value.category]
  have l0 : x_lk (lv_args 0 [.ref (a + 3)]) 0 = some (.ref (a + 3)) := rfl
  have C1 := c1_st (i := 1) (v := .int (iZ 0)) rfl hc
  have C2 := c1_st (i := 2) (v := .int (iZ 0)) rfl C1
  obtain ⟨S1, lv1, a1, a2, a3, a4, a5, a6⟩ := l21a (C := C) (N := N) d na hg f9 (flt C) [] 0 S w _ (List.drop_zero) (by omega) (by simp; omega) lS lS9 (fun v hv => by cases hv) (fun v hv => by
    rw [List.take_zero] at hv
    cases hv) (fun j hj => by
    rw [hW.1 j hj]
    unfold mrk
    rw [if_neg (fun z => by cases z.2)]) hf C2 (by rw [lk_s C1, lk_s hc]; exact l0) (by rw [lk_s C1, lk_s hc]; rfl) (by rw [lk_s C1]; rfl)
  obtain ⟨q, hq⟩ : ∃ q, q = fvs [] (flt C) := ⟨_, rfl⟩
  rw [← hq] at a2 a5 ⊢
  have q9 : q.length ≤ 80 := by
    have := fvs_len (flt C) []
    rw [← hq] at this
    simp only [List.length_nil] at this
    omega
  obtain ⟨w1, hw1⟩ : ∃ w1, w1 = uH w (a + 1) (cI 0 S1) := ⟨_, rfl⟩
  rw [← hw1] at a6
  have D2 := c1_st (i := 2) (v := .int (iZ 0)) rfl a3
  obtain ⟨S2, b1, b2, b3⟩ := l21b (C := C) (N := N) d na hg f9 q (fun v hv h9 => by rw [hq]; exact fvs_mem hv h9) q9 (flt C).length 0 S1 w1 _ (by omega) (by omega) (by omega) (fun j hj => absurd hj (Nat.not_lt_zero _)) (fun j _ hj => a2 j hj) (by rw [hw1]; exact hf.set) D2 (by rw [lk_s a3]; exact a4) (by rw [lk_s a3]; exact a5) (by rw [lk_s a3]; rfl)
  have ew : uH w1 (a + 1) (cI 0 S2) = uH w (a + 1) (cI 0 S2) := by rw [hw1, uH_upd]
  rw [ew] at b3
  have eS : ∀ k, stC (rnD C) k = stC C k := fun k => by
    unfold rnD
    exact stC_map (litR_len _) C k
  refine ⟨S2, by omega, ⟨fun j hj => ?_, fun k hk => ?_, fun k hk => ?_⟩, Xc.of rfl (by simp [lg_sl, Value.category]) (Gx.run 20 Cs.tt (fun K _ => ?_) (a6 _ (Gx.run 20 Cs.tt (fun K _ => ?_) b3))) (hp_le (Nat.le_refl _) (fun j _ => ?_))⟩
  · rw [flt_rnD, rnm_len] at hj
    rw [b2 j hj, flt_rnD]
    congr 1
    unfold rnm rn1
    rw [List.getD_eq_getElem?_getD, List.getD_eq_getElem?_getD, List.getElem?_map, List.getElem?_eq_getElem hj, ← hq]
    rfl
  · rw [rnD_len] at hk
    rw [eS]
    exact hW.2.1 k hk
  · rw [rnD_len] at hk
    unfold rnD
    rw [lC_map hk]
    exact hW.2.2 k hk
  · generalize lv_args 0 [.ref (a + 3)] = lv at hc l0
    simp (disch := first | (refine c1_id ?_; assumption) | (refine c1_st rfl ?_; repeat (first | assumption | refine c1_st rfl ?_)) | omega) [nx_l, nx_r, nx_n, x_st, x_push, x_bin, x_div, x_un, x_dup, x_pop, x_dup2, x_goto, x_ifeq, x_ifne, x_iflt, x_ifge, x_ifgt, x_ifle, x_iceq, x_icne, x_iclt, x_icge, x_icgt, x_icle, x_ifnull, x_ifnonnull, x_ldi, x_lda, x_sti, x_sta, x_iinc, x_gf, x_pf, x_ald, x_ast, x_aln, x_len, x_cl_, x_cv, x_cs, x_rc, x_r0, x_isT, x_oi, x_rv, x_ri, x_ra, Value.category, t21_0, t21_1, t21_2, t21_3, t21_4, t21_5, t21_6, t21_9, t21_12, t21_13, t21_16, t21_17, t21_18, t21_21, t21_24, t21_27, t21_28, t21_29, t21_30, t21_33, t21_34, t21_35, t21_36, t21_37, t21_40, t21_43, t21_46, t21_47, t21_48, t21_49, t21_50, t21_53, t21_56, t21_57, t21_60, t21_61, t21_62, t21_65, t21_66, t21_69, t21_70, t21_71, t21_74, t21_75, t21_76, t21_77, t21_78, t21_79, t21_82, t21_83, t21_86, t21_89, t21_90, lk_s, hp_get, hp_set, uH_at, uH_ne, uH_upd, uH_swap, iZ_add, iZ_sub, iZ_mul, iZ_neg, iZ_lt, iZ_le, iZ_eq, iZ_div, iZ_of, ix_Z, gZ_map, gZ_mapI, gZ_map', le_0, le_s, sZ_map, sZ_len, bZ_0, bZ_inj, bZ_t, bZ_f, nr_i, nr_0, nr_1, nr_b, ft_i, ft_b, ft_0, ft_1, zl_0, zl_1, l0, -List.filter_filter, -List.getElem?_map, -List.getD_eq_getElem?_getD]
  · simp (disch := first | (refine c1_id ?_; assumption) | (refine c1_st rfl ?_; repeat (first | assumption | refine c1_st rfl ?_)) | omega) [nx_l, nx_r, nx_n, x_st, x_push, x_bin, x_div, x_un, x_dup, x_pop, x_dup2, x_goto, x_ifeq, x_ifne, x_iflt, x_ifge, x_ifgt, x_ifle, x_iceq, x_icne, x_iclt, x_icge, x_icgt, x_icle, x_ifnull, x_ifnonnull, x_ldi, x_lda, x_sti, x_sta, x_iinc, x_gf, x_pf, x_ald, x_ast, x_aln, x_len, x_cl_, x_cv, x_cs, x_rc, x_r0, x_isT, x_oi, x_rv, x_ri, x_ra, Value.category, t21_0, t21_1, t21_2, t21_3, t21_4, t21_5, t21_6, t21_9, t21_12, t21_13, t21_16, t21_17, t21_18, t21_21, t21_24, t21_27, t21_28, t21_29, t21_30, t21_33, t21_34, t21_35, t21_36, t21_37, t21_40, t21_43, t21_46, t21_47, t21_48, t21_49, t21_50, t21_53, t21_56, t21_57, t21_60, t21_61, t21_62, t21_65, t21_66, t21_69, t21_70, t21_71, t21_74, t21_75, t21_76, t21_77, t21_78, t21_79, t21_82, t21_83, t21_86, t21_89, t21_90, lk_s, hp_get, hp_set, uH_at, uH_ne, uH_upd, uH_swap, iZ_add, iZ_sub, iZ_mul, iZ_neg, iZ_lt, iZ_le, iZ_eq, iZ_div, iZ_of, ix_Z, gZ_map, gZ_mapI, gZ_map', le_0, le_s, sZ_map, sZ_len, bZ_0, bZ_inj, bZ_t, bZ_f, nr_i, nr_0, nr_1, nr_b, ft_i, ft_b, ft_0, ft_1, zl_0, zl_1, a4, -List.filter_filter, -List.getElem?_map, -List.getD_eq_getElem?_getD]
  · by_cases hj : j = a + 1
    · rw [hj, fs, uH_at]
      simp only [x_c1, cI, List.length_map]
      omega
    · rw [uH_ne hj]
      exact Nat.le_refl _
end NW
