/-! the class's unify: the roots stay in range, also where there is no unifier -/

section GU2
variable {w : Nat → xC} {N : Nat} {l : Int} {Sy Ee P : List Int}
set_option maxHeartbeats 4000000 in
theorem l44r (d : Nat) (hN : 53 ≤ N) (hV : GV P Sy l) (hP : 0 < P.length) (hSy : w 17 = cI 0 Sy) (hE : w 18 = cI 0 Ee) (e1 : Ee.length = 80) (hEe : ∀ i, 0 ≤ i → i < l → gZ Ee i = i + (tm P i.toNat).length) (x y : Nat) : ∀ (n t : Nat) (Ro Os Ot : List Int) (k wt : Int) (lv : xL), Ro.length = 80 → Os.length = 241 → Ot.length = 241 → (∀ i, 0 ≤ i → i < 80 → 0 ≤ gZ Ro i ∧ gZ Ro i < 80) → (∀ i : Nat, i < t → 0 ≤ gZ Os i ∧ 0 ≤ gZ Ot i) → UJ P x y (rF Ro) (wps Os Ot t) → wt = t → 0 ≤ k → k + wt + 3 * (rc (rF Ro) P.length : Int) ≤ 1 + 3 * (P.length : Int) → t + 3 * rc (rF Ro) P.length ≤ n → c1 lv → x_lk lv 0 = some (.ref 19) → x_lk lv 3 = some (.int (iZ k)) →
    (∃ (Ro' Os' Ot' : List Int) (wt' : Int), Ro'.length = 80 ∧ Os'.length = 241 ∧ Ot'.length = 241 ∧ (∀ i, 0 ≤ i → i < 80 → 0 ≤ gZ Ro' i ∧ gZ Ro' i < 80) ∧ Gx q_k44 (d + 2) 13 (lv, [], gH w N l wt Ro Os Ot) (some (.int (iZ 0)), gH w N l wt' Ro' Os' Ot') ∧ ∀ θ, Tσ θ → sub θ (tm P x) ≠ sub θ (tm P y)) ∨
    (∃ (Ro' Os' Ot' : List Int) (lv' : xL), Ro'.length = 80 ∧ Os'.length = 241 ∧ Ot'.length = 241 ∧ (∀ i, 0 ≤ i → i < 80 → 0 ≤ gZ Ro' i ∧ gZ Ro' i < 80) ∧ UJ P x y (rF Ro') [] ∧ c1 lv' ∧ x_lk lv' 0 = some (.ref 19) ∧ ∀ res, Gx q_k44 (d + 2) 169 (lv', [], gH w N l 0 Ro' Os' Ot') res → Gx q_k44 (d + 2) 13 (lv, [], gH w N l wt Ro Os Ot) res) := by
  obtain ⟨v1, v2, v3, v4, v5, v6⟩ := hV
  intro n
  induction n with
  | zero =>
    intro t Ro Os Ot k wt lv s0 s1 s2 hr hnn hJ hwt k0 hkw hn
    exfalso
    obtain ⟨h1, ⟨dm, h2⟩, -⟩ := hJ
    have := rc_pos (fdn_lt h1 80 0 hP) (fdn_is h1 h2 (k := 80) (by omega) hP)
    omega
  | succ n ih =>
    intro t Ro Os Ot k wt lv s0 s1 s2 hr hnn hJ hwt k0 hkw hn hc l0 l3
    have hJ' := hJ
    obtain ⟨h1, ⟨dm, h2⟩, -⟩ := hJ'
    have hpos := rc_pos (fdn_lt h1 80 0 hP) (fdn_is h1 h2 (k := 80) (by omega) hP)
    cases t with
    | zero =>
      have hw0 : wt = 0 := by simpa using hwt
      subst hw0
      refine Or.inr ⟨Ro, Os, Ot, lv, s0, s1, s2, hr, hJ, hc, l0, fun res k3 => Gx.run 20 Cs.tt (fun C _ => ?_) k3⟩
      have b1 : ¬ 241 ≤ k := by omega
      simp (disch := first | (refine c1_id ?_; assumption) | (refine c1_st rfl ?_; repeat (first | assumption | refine c1_st rfl ?_)) | omega) [nx_l, nx_r, nx_n, x_st, x_push, x_bin, x_div, x_un, x_dup, x_pop, x_dup2, x_goto, x_ifeq, x_ifne, x_iflt, x_ifge, x_ifgt, x_ifle, x_iceq, x_icne, x_iclt, x_icge, x_icgt, x_icle, x_ifnull, x_ifnonnull, x_ldi, x_lda, x_sti, x_sta, x_iinc, x_gf, x_pf, x_ald, x_ast, x_aln, x_len, x_cl_, x_cv, x_cs, x_rc, x_r0, x_isT, x_oi, x_rv, x_ri, x_ra, Value.category, t44_0, t44_1, t44_2, t44_5, t44_6, t44_7, t44_8, t44_11, t44_12, t44_13, t44_14, t44_17, t44_20, t44_21, t44_24, t44_27, t44_28, t44_29, t44_32, t44_33, t44_34, t44_37, t44_38, t44_39, t44_42, t44_43, t44_46, t44_47, t44_50, t44_52, t44_53, t44_54, t44_57, t44_58, t44_61, t44_62, t44_65, t44_67, t44_69, t44_71, t44_74, t44_77, t44_78, t44_81, t44_83, t44_84, t44_87, t44_90, t44_91, t44_94, t44_96, t44_98, t44_99, t44_102, t44_103, t44_106, t44_108, t44_109, t44_112, t44_115, t44_116, t44_119, t44_121, t44_123, t44_124, t44_127, t44_128, t44_131, t44_133, t44_134, t44_135, t44_138, t44_140, t44_141, t44_144, t44_145, t44_146, t44_147, t44_150, t44_152, t44_154, t44_155, t44_156, t44_158, t44_160, t44_163, t44_166, t44_169, t44_170, t44_173, lk_s, hp_get, hp_set, uH_at, uH_ne, uH_upd, uH_swap, iZ_add, iZ_sub, iZ_mul, iZ_neg, iZ_lt, iZ_le, iZ_eq, iZ_div, iZ_of, ix_Z, gZ_map, gZ_mapI, gZ_map', le_0, le_s, sZ_map, sZ_len, bZ_0, bZ_inj, bZ_t, bZ_f, nr_i, nr_0, nr_1, nr_b, ft_i, ft_b, ft_0, ft_1, zl_0, zl_1, zl_241, gH, l0, l3, b1, gF_len, gg_0, gg_1, gg_2, gg_3, gg_4, gg_5, gg_6, gg_7, gg_8, gs_7, gs_8, -List.filter_filter, -List.getElem?_map, -List.getD_eq_getElem?_getD]
    | succ t =>
      have ew : wt - 1 = (t : Int) := by omega
      have hn1 := hnn t (Nat.lt_succ_self _)
      rw [← ew] at hn1
      have hJ2 : UJ P x y (rF Ro) (((gZ Os (wt - 1)).toNat, (gZ Ot (wt - 1)).toNat) :: wps Os Ot t) := by
        rw [ew]
        exact hJ
      have hpq := hJ2.2.2.2.2.2.2 _ List.mem_cons_self
      dsimp only at hpq
      obtain ⟨lv1, g1, g2, g3, g4, g5, cut⟩ := l44_13 (w := w) d hN (l := l) (by omega) v2 Ro Os Ot s0 s1 s2 hr wt k (by omega) (by omega) k0 (by omega) hn1.1 (by omega) hn1.2 (by omega) lv hc l0 l3
      have la := fdn_lt h1 80 _ hpq.1
      have lb := fdn_lt h1 80 _ hpq.2
      have ta := fdn_is h1 h2 (k := 80) (by omega) hpq.1
      have tb := fdn_is h1 h2 (k := 80) (by omega) hpq.2
      have Lsame := hJ2.same (k := 80) (by omega)
      have Lclash := UJ.clash (k := 80) v6 hJ2 (by omega)
      have Llink := UJ.link (k := 80) (V := []) hJ2 (by omega)
      have Llink2 := UJ.link (k := 80) (V := []) hJ2.flip (by omega)
      have Lsons := UJ.sons (k := 80) v6 hJ2 (by omega)
      generalize fdn (rF Ro) 80 (gZ Os (wt - 1)).toNat = a at *
      generalize fdn (rF Ro) 80 (gZ Ot (wt - 1)).toNat = b at *
      obtain ⟨a1, a2, a3⟩ := v4 a la
      obtain ⟨b1, b2, b3⟩ := v4 b lb
      have a4 := vs_lo a1
      have a5 := vs_hi a1
      have b4 := vs_lo b1
      have b5 := vs_hi b1
      have hnn' : ∀ i : Nat, i < t → 0 ≤ gZ Os i ∧ 0 ≤ gZ Ot i := fun i hi => hnn i (Nat.lt_succ_of_lt hi)
      have C1 := c1_st (i := 3) (v := .int (iZ (k + 1))) rfl g1
      have f0 : x_lk ((3, .int (iZ (k + 1))) :: List.filter (x_keep 3) lv1) 0 = some (.ref 19) := by rw [lk_s g1]; exact g2
      have f3 : x_lk ((3, .int (iZ (k + 1))) :: List.filter (x_keep 3) lv1) 3 = some (.int (iZ (k + 1))) := by rw [lk_s g1]; rfl
      have step : ∀ {Ro' Os' Ot' : List Int} {wt' : Int}, (∀ res, Gx q_k44 (d + 2) 13 ((3, .int (iZ (k + 1))) :: List.filter (x_keep 3) lv1, [], gH w N l wt' Ro' Os' Ot') res → Gx q_k44 (d + 2) 67 (lv1, [], gH w N l (wt - 1) Ro Os Ot) res) →
          ((∃ (Ro2 Os2 Ot2 : List Int) (wt2 : Int), Ro2.length = 80 ∧ Os2.length = 241 ∧ Ot2.length = 241 ∧ (∀ i, 0 ≤ i → i < 80 → 0 ≤ gZ Ro2 i ∧ gZ Ro2 i < 80) ∧ Gx q_k44 (d + 2) 13 ((3, .int (iZ (k + 1))) :: List.filter (x_keep 3) lv1, [], gH w N l wt' Ro' Os' Ot') (some (.int (iZ 0)), gH w N l wt2 Ro2 Os2 Ot2) ∧ ∀ θ, Tσ θ → sub θ (tm P x) ≠ sub θ (tm P y)) ∨
           (∃ (Ro2 Os2 Ot2 : List Int) (lv2 : xL), Ro2.length = 80 ∧ Os2.length = 241 ∧ Ot2.length = 241 ∧ (∀ i, 0 ≤ i → i < 80 → 0 ≤ gZ Ro2 i ∧ gZ Ro2 i < 80) ∧ UJ P x y (rF Ro2) [] ∧ c1 lv2 ∧ x_lk lv2 0 = some (.ref 19) ∧ ∀ res, Gx q_k44 (d + 2) 169 (lv2, [], gH w N l 0 Ro2 Os2 Ot2) res → Gx q_k44 (d + 2) 13 ((3, .int (iZ (k + 1))) :: List.filter (x_keep 3) lv1, [], gH w N l wt' Ro' Os' Ot') res)) →
          ((∃ (Ro2 Os2 Ot2 : List Int) (wt2 : Int), Ro2.length = 80 ∧ Os2.length = 241 ∧ Ot2.length = 241 ∧ (∀ i, 0 ≤ i → i < 80 → 0 ≤ gZ Ro2 i ∧ gZ Ro2 i < 80) ∧ Gx q_k44 (d + 2) 13 (lv, [], gH w N l wt Ro Os Ot) (some (.int (iZ 0)), gH w N l wt2 Ro2 Os2 Ot2) ∧ ∀ θ, Tσ θ → sub θ (tm P x) ≠ sub θ (tm P y)) ∨
           (∃ (Ro2 Os2 Ot2 : List Int) (lv2 : xL), Ro2.length = 80 ∧ Os2.length = 241 ∧ Ot2.length = 241 ∧ (∀ i, 0 ≤ i → i < 80 → 0 ≤ gZ Ro2 i ∧ gZ Ro2 i < 80) ∧ UJ P x y (rF Ro2) [] ∧ c1 lv2 ∧ x_lk lv2 0 = some (.ref 19) ∧ ∀ res, Gx q_k44 (d + 2) 169 (lv2, [], gH w N l 0 Ro2 Os2 Ot2) res → Gx q_k44 (d + 2) 13 (lv, [], gH w N l wt Ro Os Ot) res)) := by
        intro Ro' Os' Ot' wt' hst hh
        rcases hh with ⟨R2, O2, T2, w2, q1, q2, q3, q0, q4, q5⟩ | ⟨R2, O2, T2, lv2, q1, q2, q3, q4, q5, q6, q7, q8⟩
        · exact Or.inl ⟨R2, O2, T2, w2, q1, q2, q3, q0, cut _ (hst _ q4), q5⟩
        · exact Or.inr ⟨R2, O2, T2, lv2, q1, q2, q3, q4, q5, q6, q7, fun res k3 => cut _ (hst _ (q8 res k3))⟩
      by_cases hab : a = b
      · refine step (Ro' := Ro) (Os' := Os) (Ot' := Ot) (wt' := wt - 1) (fun res k3 => Gx.run 20 Cs.tt (fun C _ => ?_) k3) (ih t Ro Os Ot (k + 1) (wt - 1) _ s0 s1 s2 hr hnn' (Lsame hab) ew (by omega) (by omega) (by omega) C1 f0 f3)
        subst hab
        simp (disch := first | (refine c1_id ?_; assumption) | (refine c1_st rfl ?_; repeat (first | assumption | refine c1_st rfl ?_)) | omega) [nx_l, nx_r, nx_n, x_st, x_push, x_bin, x_div, x_un, x_dup, x_pop, x_dup2, x_goto, x_ifeq, x_ifne, x_iflt, x_ifge, x_ifgt, x_ifle, x_iceq, x_icne, x_iclt, x_icge, x_icgt, x_icle, x_ifnull, x_ifnonnull, x_ldi, x_lda, x_sti, x_sta, x_iinc, x_gf, x_pf, x_ald, x_ast, x_aln, x_len, x_cl_, x_cv, x_cs, x_rc, x_r0, x_isT, x_oi, x_rv, x_ri, x_ra, Value.category, t44_0, t44_1, t44_2, t44_5, t44_6, t44_7, t44_8, t44_11, t44_12, t44_13, t44_14, t44_17, t44_20, t44_21, t44_24, t44_27, t44_28, t44_29, t44_32, t44_33, t44_34, t44_37, t44_38, t44_39, t44_42, t44_43, t44_46, t44_47, t44_50, t44_52, t44_53, t44_54, t44_57, t44_58, t44_61, t44_62, t44_65, t44_67, t44_69, t44_71, t44_74, t44_77, t44_78, t44_81, t44_83, t44_84, t44_87, t44_90, t44_91, t44_94, t44_96, t44_98, t44_99, t44_102, t44_103, t44_106, t44_108, t44_109, t44_112, t44_115, t44_116, t44_119, t44_121, t44_123, t44_124, t44_127, t44_128, t44_131, t44_133, t44_134, t44_135, t44_138, t44_140, t44_141, t44_144, t44_145, t44_146, t44_147, t44_150, t44_152, t44_154, t44_155, t44_156, t44_158, t44_160, t44_163, t44_166, t44_169, t44_170, t44_173, lk_s, hp_get, hp_set, uH_at, uH_ne, uH_upd, uH_swap, iZ_add, iZ_sub, iZ_mul, iZ_neg, iZ_lt, iZ_le, iZ_eq, iZ_div, iZ_of, ix_Z, gZ_map, gZ_mapI, gZ_map', le_0, le_s, sZ_map, sZ_len, bZ_0, bZ_inj, bZ_t, bZ_f, nr_i, nr_0, nr_1, nr_b, ft_i, ft_b, ft_0, ft_1, zl_0, zl_1, zl_241, gH, g2, g3, g4, g5, -List.filter_filter, -List.getElem?_map, -List.getD_eq_getElem?_getD]
      · have mA := m2 (d + 1) (gW w l (wt - 1) Ro Os Ot) N (gZ Sy a) (by omega) (by omega)
        have mB := m2 (d + 1) (gW w l (wt - 1) Ro Os Ot) N (gZ Sy b) (by omega) (by omega)
        have nab : ¬ (a : Int) = (b : Int) := by omega
        by_cases hva : 128 ≤ gZ Sy a
        · -- the first is a variable
          have hd : decide (128 ≤ gZ Sy a) = true := decide_eq_true hva
          rw [hd] at mA
          have hJ3 := Llink hab (fun z => absurd (a3.mpr hva) z) (fun _ _ _ _ h => by cases h) (fun _ h => by cases h)
          rw [← rF_ups s0 (by omega), List.nil_append] at hJ3
          have hrc := rc_ups (R := rF Ro) la ta hab
          rw [← rF_ups s0 (by omega)] at hrc
          refine step (Ro' := sZ Ro a b) (Os' := Os) (Ot' := Ot) (wt' := wt - 1) (fun res k3 => Gx.run 40 mA (fun C mA => ?_) k3) (ih t (sZ Ro a b) Os Ot (k + 1) (wt - 1) _ (by rw [sZ_len]; exact s0) s1 s2 (hr_set s0 hr (by omega) (by omega)) hnn' hJ3 ew (by omega) (by omega) (by omega) C1 f0 f3)
          unfold gW at mA
          simp (disch := first | (refine c1_id ?_; assumption) | (refine c1_st rfl ?_; repeat (first | assumption | refine c1_st rfl ?_)) | omega) [nx_l, nx_r, nx_n, x_st, x_push, x_bin, x_div, x_un, x_dup, x_pop, x_dup2, x_goto, x_ifeq, x_ifne, x_iflt, x_ifge, x_ifgt, x_ifle, x_iceq, x_icne, x_iclt, x_icge, x_icgt, x_icle, x_ifnull, x_ifnonnull, x_ldi, x_lda, x_sti, x_sta, x_iinc, x_gf, x_pf, x_ald, x_ast, x_aln, x_len, x_cl_, x_cv, x_cs, x_rc, x_r0, x_isT, x_oi, x_rv, x_ri, x_ra, Value.category, t44_0, t44_1, t44_2, t44_5, t44_6, t44_7, t44_8, t44_11, t44_12, t44_13, t44_14, t44_17, t44_20, t44_21, t44_24, t44_27, t44_28, t44_29, t44_32, t44_33, t44_34, t44_37, t44_38, t44_39, t44_42, t44_43, t44_46, t44_47, t44_50, t44_52, t44_53, t44_54, t44_57, t44_58, t44_61, t44_62, t44_65, t44_67, t44_69, t44_71, t44_74, t44_77, t44_78, t44_81, t44_83, t44_84, t44_87, t44_90, t44_91, t44_94, t44_96, t44_98, t44_99, t44_102, t44_103, t44_106, t44_108, t44_109, t44_112, t44_115, t44_116, t44_119, t44_121, t44_123, t44_124, t44_127, t44_128, t44_131, t44_133, t44_134, t44_135, t44_138, t44_140, t44_141, t44_144, t44_145, t44_146, t44_147, t44_150, t44_152, t44_154, t44_155, t44_156, t44_158, t44_160, t44_163, t44_166, t44_169, t44_170, t44_173, lk_s, hp_get, hp_set, uH_at, uH_ne, uH_upd, uH_swap, iZ_add, iZ_sub, iZ_mul, iZ_neg, iZ_lt, iZ_le, iZ_eq, iZ_div, iZ_of, ix_Z, gZ_map, gZ_mapI, gZ_map', le_0, le_s, sZ_map, sZ_len, bZ_0, bZ_inj, bZ_t, bZ_f, nr_i, nr_0, nr_1, nr_b, ft_i, ft_b, ft_0, ft_1, zl_0, zl_1, zl_241, gH, g2, g3, g4, g5, hSy, nab, mA, gF_len, gg_0, gg_1, gg_2, gg_3, gg_4, gg_5, gg_6, gg_7, gg_8, gs_7, gs_8, -List.filter_filter, -List.getElem?_map, -List.getD_eq_getElem?_getD]
        · have hd : decide (128 ≤ gZ Sy a) = false := decide_eq_false hva
          rw [hd] at mA
          by_cases hvb : 128 ≤ gZ Sy b
          · -- the second is a variable
            have hd2 : decide (128 ≤ gZ Sy b) = true := decide_eq_true hvb
            rw [hd2] at mB
            have hJ3 := Llink2 (Ne.symm hab) (fun z => absurd (b3.mpr hvb) z) (fun _ _ _ _ h => by cases h) (fun _ h => by cases h)
            rw [← rF_ups s0 (by omega), List.nil_append] at hJ3
            have hrc := rc_ups (R := rF Ro) lb tb (Ne.symm hab)
            rw [← rF_ups s0 (by omega)] at hrc
            refine step (Ro' := sZ Ro b a) (Os' := Os) (Ot' := Ot) (wt' := wt - 1) (fun res k3 => Gx.run 60 (mA.and mB) (fun C mm => ?_) k3) (ih t (sZ Ro b a) Os Ot (k + 1) (wt - 1) _ (by rw [sZ_len]; exact s0) s1 s2 (hr_set s0 hr (by omega) (by omega)) hnn' hJ3 ew (by omega) (by omega) (by omega) C1 f0 f3)
            obtain ⟨mA, mB⟩ := mm
            unfold gW at mA mB
            simp (disch := first | (refine c1_id ?_; assumption) | (refine c1_st rfl ?_; repeat (first | assumption | refine c1_st rfl ?_)) | omega) [nx_l, nx_r, nx_n, x_st, x_push, x_bin, x_div, x_un, x_dup, x_pop, x_dup2, x_goto, x_ifeq, x_ifne, x_iflt, x_ifge, x_ifgt, x_ifle, x_iceq, x_icne, x_iclt, x_icge, x_icgt, x_icle, x_ifnull, x_ifnonnull, x_ldi, x_lda, x_sti, x_sta, x_iinc, x_gf, x_pf, x_ald, x_ast, x_aln, x_len, x_cl_, x_cv, x_cs, x_rc, x_r0, x_isT, x_oi, x_rv, x_ri, x_ra, Value.category, t44_0, t44_1, t44_2, t44_5, t44_6, t44_7, t44_8, t44_11, t44_12, t44_13, t44_14, t44_17, t44_20, t44_21, t44_24, t44_27, t44_28, t44_29, t44_32, t44_33, t44_34, t44_37, t44_38, t44_39, t44_42, t44_43, t44_46, t44_47, t44_50, t44_52, t44_53, t44_54, t44_57, t44_58, t44_61, t44_62, t44_65, t44_67, t44_69, t44_71, t44_74, t44_77, t44_78, t44_81, t44_83, t44_84, t44_87, t44_90, t44_91, t44_94, t44_96, t44_98, t44_99, t44_102, t44_103, t44_106, t44_108, t44_109, t44_112, t44_115, t44_116, t44_119, t44_121, t44_123, t44_124, t44_127, t44_128, t44_131, t44_133, t44_134, t44_135, t44_138, t44_140, t44_141, t44_144, t44_145, t44_146, t44_147, t44_150, t44_152, t44_154, t44_155, t44_156, t44_158, t44_160, t44_163, t44_166, t44_169, t44_170, t44_173, lk_s, hp_get, hp_set, uH_at, uH_ne, uH_upd, uH_swap, iZ_add, iZ_sub, iZ_mul, iZ_neg, iZ_lt, iZ_le, iZ_eq, iZ_div, iZ_of, ix_Z, gZ_map, gZ_mapI, gZ_map', le_0, le_s, sZ_map, sZ_len, bZ_0, bZ_inj, bZ_t, bZ_f, nr_i, nr_0, nr_1, nr_b, ft_i, ft_b, ft_0, ft_1, zl_0, zl_1, zl_241, gH, g2, g3, g4, g5, hSy, nab, mA, mB, gF_len, gg_0, gg_1, gg_2, gg_3, gg_4, gg_5, gg_6, gg_7, gg_8, gs_7, gs_8, -List.filter_filter, -List.getElem?_map, -List.getD_eq_getElem?_getD]
          · have hd2 : decide (128 ≤ gZ Sy b) = false := decide_eq_false hvb
            rw [hd2] at mB
            have na : ¬ pz P a < 99 := fun z => hva (a3.mp z)
            have nb : ¬ pz P b < 99 := fun z => hvb (b3.mp z)
            by_cases hss : gZ Sy a = gZ Sy b
            · -- one sign
              have epz : pz P a = pz P b := (v5 a b la lb na nb).mpr hss
              have har := ar_le (pz P a)
              have hJ3 := Lsons hab na epz.symm
              rw [← rF_ups s0 (by omega)] at hJ3
              have hrc := rc_ups (R := rF Ro) la ta hab
              rw [← rF_ups s0 (by omega)] at hrc
              have hwp := wps_psh (W := []) (P := P) (Os := Os) (Ot := Ot) (t := t) (a := a) (b := b) s1 s2 (by omega) epz.symm
              have hJ4 := hJ3.perm (W' := wps (psh P Os t (ar (pz P a)) ((a : Int) + 1)) (psh P Ot t (ar (pz P a)) ((b : Int) + 1)) (t + ar (pz P a))) (fun q hq => Or.inl ((hwp q).mpr hq)) (fun q hq => Or.inl ((hwp q).mp hq))
              have mJ := m46 d (w := gW w l (wt - 1) (sZ Ro a b) Os Ot) (N := N) (P := P) (Sy := Sy) (Ee := Ee) (l := l) (wt := wt - 1) (Os := Os) (Ot := Ot) hN ⟨v1, v2, v3, v4, v5, v6⟩ (by rw [gW_o _ _ _ _ _ (by omega)]; exact hSy) (by rw [gW_o _ _ _ _ _ (by omega)]; exact hE) e1 hEe (gW_16 _ _ _ _ _ _) (gW_22 _ _ _ _ _ _) (gW_23 _ _ _ _ _ _) s1 s2 a b la lb na epz.symm (by omega) (by omega)
              have hnn2 : ∀ i : Nat, i < t + ar (pz P a) → 0 ≤ gZ (psh P Os t (ar (pz P a)) ((a : Int) + 1)) i ∧ 0 ≤ gZ (psh P Ot t (ar (pz P a)) ((b : Int) + 1)) i := fun i hi => by
                by_cases hi2 : i < t
                · rw [psh_low (by omega) (by omega) (by omega) (by omega), psh_low (by omega) (by omega) (by omega) (by omega)]
                  exact hnn' i hi2
                · obtain ⟨j, rfl⟩ : ∃ j, i = t + j := ⟨i - t, by omega⟩
                  rw [show ((t + j : Nat) : Int) = (t : Int) + (j : Int) by omega, psh_at (by omega) (by omega) (by omega) (by omega), psh_at (by omega) (by omega) (by omega) (by omega)]
                  omega
              refine step (Ro' := sZ Ro a b) (Os' := psh P Os t (ar (pz P a)) ((a : Int) + 1)) (Ot' := psh P Ot t (ar (pz P a)) ((b : Int) + 1)) (wt' := wt - 1 + ar (pz P a)) (fun res k3 => Gx.run 80 (mA.and (mB.and mJ)) (fun C mm => ?_) k3) (ih (t + ar (pz P a)) (sZ Ro a b) _ _ (k + 1) (wt - 1 + ar (pz P a)) _ (by rw [sZ_len]; exact s0) (by rw [psh_len]; exact s1) (by rw [psh_len]; exact s2) (hr_set s0 hr (by omega) (by omega)) hnn2 hJ4 (by omega) (by omega) (by omega) (by omega) C1 f0 f3)
              obtain ⟨mA, mB, mJ⟩ := mm
              unfold gW at mA mB mJ
              rw [ew] at mA mB mJ ⊢
              simp (disch := first | (refine c1_id ?_; assumption) | (refine c1_st rfl ?_; repeat (first | assumption | refine c1_st rfl ?_)) | omega) [nx_l, nx_r, nx_n, x_st, x_push, x_bin, x_div, x_un, x_dup, x_pop, x_dup2, x_goto, x_ifeq, x_ifne, x_iflt, x_ifge, x_ifgt, x_ifle, x_iceq, x_icne, x_iclt, x_icge, x_icgt, x_icle, x_ifnull, x_ifnonnull, x_ldi, x_lda, x_sti, x_sta, x_iinc, x_gf, x_pf, x_ald, x_ast, x_aln, x_len, x_cl_, x_cv, x_cs, x_rc, x_r0, x_isT, x_oi, x_rv, x_ri, x_ra, Value.category, t44_0, t44_1, t44_2, t44_5, t44_6, t44_7, t44_8, t44_11, t44_12, t44_13, t44_14, t44_17, t44_20, t44_21, t44_24, t44_27, t44_28, t44_29, t44_32, t44_33, t44_34, t44_37, t44_38, t44_39, t44_42, t44_43, t44_46, t44_47, t44_50, t44_52, t44_53, t44_54, t44_57, t44_58, t44_61, t44_62, t44_65, t44_67, t44_69, t44_71, t44_74, t44_77, t44_78, t44_81, t44_83, t44_84, t44_87, t44_90, t44_91, t44_94, t44_96, t44_98, t44_99, t44_102, t44_103, t44_106, t44_108, t44_109, t44_112, t44_115, t44_116, t44_119, t44_121, t44_123, t44_124, t44_127, t44_128, t44_131, t44_133, t44_134, t44_135, t44_138, t44_140, t44_141, t44_144, t44_145, t44_146, t44_147, t44_150, t44_152, t44_154, t44_155, t44_156, t44_158, t44_160, t44_163, t44_166, t44_169, t44_170, t44_173, lk_s, hp_get, hp_set, uH_at, uH_ne, uH_upd, uH_swap, iZ_add, iZ_sub, iZ_mul, iZ_neg, iZ_lt, iZ_le, iZ_eq, iZ_div, iZ_of, ix_Z, gZ_map, gZ_mapI, gZ_map', le_0, le_s, sZ_map, sZ_len, bZ_0, bZ_inj, bZ_t, bZ_f, nr_i, nr_0, nr_1, nr_b, ft_i, ft_b, ft_0, ft_1, zl_0, zl_1, zl_241, gH, g2, g3, g4, g5, hSy, nab, hss, mA, mB, mJ, gF_len, gg_0, gg_1, gg_2, gg_3, gg_4, gg_5, gg_6, gg_7, gg_8, gs_7, gs_8, -List.filter_filter, -List.getElem?_map, -List.getD_eq_getElem?_getD]
            · -- two signs
              have hno := Lclash na nb (fun z => hss ((v5 a b la lb na nb).mp z))
              refine Or.inl ⟨Ro, Os, Ot, wt - 1, s0, s1, s2, hr, cut _ (Gx.fin 60 (mA.and mB) (fun C mm => ?_)), hno⟩
              obtain ⟨mA, mB⟩ := mm
              unfold gW at mA mB
              simp (disch := first | (refine c1_id ?_; assumption) | (refine c1_st rfl ?_; repeat (first | assumption | refine c1_st rfl ?_)) | omega) [nx_l, nx_r, nx_n, x_st, x_push, x_bin, x_div, x_un, x_dup, x_pop, x_dup2, x_goto, x_ifeq, x_ifne, x_iflt, x_ifge, x_ifgt, x_ifle, x_iceq, x_icne, x_iclt, x_icge, x_icgt, x_icle, x_ifnull, x_ifnonnull, x_ldi, x_lda, x_sti, x_sta, x_iinc, x_gf, x_pf, x_ald, x_ast, x_aln, x_len, x_cl_, x_cv, x_cs, x_rc, x_r0, x_isT, x_oi, x_rv, x_ri, x_ra, Value.category, t44_0, t44_1, t44_2, t44_5, t44_6, t44_7, t44_8, t44_11, t44_12, t44_13, t44_14, t44_17, t44_20, t44_21, t44_24, t44_27, t44_28, t44_29, t44_32, t44_33, t44_34, t44_37, t44_38, t44_39, t44_42, t44_43, t44_46, t44_47, t44_50, t44_52, t44_53, t44_54, t44_57, t44_58, t44_61, t44_62, t44_65, t44_67, t44_69, t44_71, t44_74, t44_77, t44_78, t44_81, t44_83, t44_84, t44_87, t44_90, t44_91, t44_94, t44_96, t44_98, t44_99, t44_102, t44_103, t44_106, t44_108, t44_109, t44_112, t44_115, t44_116, t44_119, t44_121, t44_123, t44_124, t44_127, t44_128, t44_131, t44_133, t44_134, t44_135, t44_138, t44_140, t44_141, t44_144, t44_145, t44_146, t44_147, t44_150, t44_152, t44_154, t44_155, t44_156, t44_158, t44_160, t44_163, t44_166, t44_169, t44_170, t44_173, lk_s, hp_get, hp_set, uH_at, uH_ne, uH_upd, uH_swap, iZ_add, iZ_sub, iZ_mul, iZ_neg, iZ_lt, iZ_le, iZ_eq, iZ_div, iZ_of, ix_Z, gZ_map, gZ_mapI, gZ_map', le_0, le_s, sZ_map, sZ_len, bZ_0, bZ_inj, bZ_t, bZ_f, nr_i, nr_0, nr_1, nr_b, ft_i, ft_b, ft_0, ft_1, zl_0, zl_1, zl_241, gH, g2, g3, g4, g5, hSy, nab, hss, mA, mB, gF_len, gg_0, gg_1, gg_2, gg_3, gg_4, gg_5, gg_6, gg_7, gg_8, gs_7, gs_8, -List.filter_filter, -List.getElem?_map, -List.getD_eq_getElem?_getD]
end GU2
section GA2
variable {w : Nat → xC} {N : Nat} {l wt : Int} {Sy Ee Ro Fi Os Ot P : List Int}
theorem m44r (d : Nat) (hN : 53 ≤ N) (hV : GV P Sy l) (hg : w 16 = gO l wt) (hSy : w 17 = cI 0 Sy) (hE : w 18 = cI 0 Ee) (e1 : Ee.length = 80) (hEe : ∀ i, 0 ≤ i → i < l → gZ Ee i = i + (tm P i.toNat).length) (hR : w 19 = cI 0 Ro) (e2 : Ro.length = 80) (hr : ∀ i, 0 ≤ i → i < 80 → 0 ≤ gZ Ro i ∧ gZ Ro i < 80) (hF : w 21 = cI 1 Fi) (e3 : Fi.length = 80) (hf : ∀ i, gZ Fi i = 0 ∨ gZ Fi i = 1) (hO : w 22 = cI 0 Os) (hT : w 23 = cI 0 Ot) (s1 : Os.length = 241) (s2 : Ot.length = 241) (x y : Nat) (hJ : UJ P x y (rF Ro) [(x, y)]) :
    ∃ (Ro' Fi' Os' Ot' : List Int) (wt' : Int) (b : Bool), Ro'.length = 80 ∧ Fi'.length = 80 ∧ Os'.length = 241 ∧ Ot'.length = 241 ∧ (∀ i, gZ Fi' i = 0 ∨ gZ Fi' i = 1) ∧ Xc (d + 4) 44 [.ref 19, .int (iZ x), .int (iZ y)] (hp w N) (some (.int (iZ (bZ b))), fH w N l wt' Ro' Fi' Os' Ot') ∧
      (∀ i, 0 ≤ i → i < 80 → 0 ≤ gZ Ro' i ∧ gZ Ro' i < 80) ∧ (b = true → ∃ (fd rk : Nat → Nat) (K : Nat), GM P fd rk K ∧ (∀ i : Nat, i < P.length → gZ Ro' i = fd i) ∧ Mg (sg P fd K) (tm P x) (tm P y)) ∧ (b = false → ∀ θ, Tσ θ → sub θ (tm P x) ≠ sub θ (tm P y)) := by
  have hV' := hV
  obtain ⟨v1, v2, v3, v4, v5, v6⟩ := hV'
  have hxy := hJ.2.2.2.2.2.2 (x, y) List.mem_cons_self
  dsimp only at hxy
  have o1 : gZ (sZ Os 0 x) ((0 : Nat) : Int) = x := by rw [gZ_sZ (by omega) (by omega) (by omega), if_pos (by omega)]
  have o2 : gZ (sZ Ot 0 y) ((0 : Nat) : Int) = y := by rw [gZ_sZ (by omega) (by omega) (by omega), if_pos (by omega)]
  have hJ1 : UJ P x y (rF Ro) (wps (sZ Os 0 x) (sZ Ot 0 y) 1) := by
    show UJ P x y (rF Ro) [((gZ (sZ Os 0 x) ((0 : Nat) : Int)).toNat, (gZ (sZ Ot 0 y) ((0 : Nat) : Int)).toNat)]
    rw [o1, o2, Int.toNat_natCast, Int.toNat_natCast]
    exact hJ
  have hrc := rc_le (rF Ro) P.length
  have hc : c1 (lv_args 0 [.ref 19, .int (iZ x), .int (iZ y)]) := by simp [c1, lv_args, Value.category]
  have l0 : x_lk (lv_args 0 [.ref 19, .int (iZ x), .int (iZ y)]) 0 = some (.ref 19) := rfl
  have l1 : x_lk (lv_args 0 [.ref 19, .int (iZ x), .int (iZ y)]) 1 = some (.int (iZ x)) := rfl
  have l2 : x_lk (lv_args 0 [.ref 19, .int (iZ x), .int (iZ y)]) 2 = some (.int (iZ y)) := rfl
  have C1 := c1_st (i := 3) (v := .int (iZ 0)) rfl hc
  have mj := m45 (d + 2) (w := uH w 16 (gO l 0)) (N := N) (l := l) (wt := 0) (Os := Os) (Ot := Ot) hN (by rw [uH_at]) (by rw [uH_ne (by omega)]; exact hO) (by rw [uH_ne (by omega)]; exact hT) s1 s2 (by omega) v2 (by omega) (by omega) x y (by omega) (by omega) (by omega) (by omega)
  have eg : gH w N l 1 Ro (sZ Os 0 x) (sZ Ot 0 y) = hp (uH (uH (uH w 16 (gO l 1)) 22 (cI 0 (sZ Os 0 x))) 23 (cI 0 (sZ Ot 0 y))) N := by
    unfold gH
    rw [uH_self (a := 19) (c := cI 0 Ro) (by rw [uH_ne (by omega)]; exact hR)]
  have first : ∀ res, x_le (hp w N) res.2 → Gx q_k44 (d + 3) 13 ((3, .int (iZ 0)) :: List.filter (x_keep 3) (lv_args 0 [.ref 19, .int (iZ x), .int (iZ y)]), [], gH w N l 1 Ro (sZ Os 0 x) (sZ Ot 0 y)) res → Xc (d + 4) 44 [.ref 19, .int (iZ x), .int (iZ y)] (hp w N) res := fun res hle k3 => by
    refine Xc.of rfl (by simp [lg_sl, Value.category]) ?_ hle
    rw [eg] at k3
    generalize lv_args 0 [.ref 19, .int (iZ x), .int (iZ y)] = lv at hc l0 l1 l2 k3
    refine Gx.run 40 mj (fun C mj => ?_) k3
    rw [uH_upd, Int.zero_add] at mj
    simp (disch := first | (refine c1_id ?_; assumption) | (refine c1_st rfl ?_; repeat (first | assumption | refine c1_st rfl ?_)) | omega) [nx_l, nx_r, nx_n, x_st, x_push, x_bin, x_div, x_un, x_dup, x_pop, x_dup2, x_goto, x_ifeq, x_ifne, x_iflt, x_ifge, x_ifgt, x_ifle, x_iceq, x_icne, x_iclt, x_icge, x_icgt, x_icle, x_ifnull, x_ifnonnull, x_ldi, x_lda, x_sti, x_sta, x_iinc, x_gf, x_pf, x_ald, x_ast, x_aln, x_len, x_cl_, x_cv, x_cs, x_rc, x_r0, x_isT, x_oi, x_rv, x_ri, x_ra, Value.category, t44_0, t44_1, t44_2, t44_5, t44_6, t44_7, t44_8, t44_11, t44_12, t44_13, t44_14, t44_17, t44_20, t44_21, t44_24, t44_27, t44_28, t44_29, t44_32, t44_33, t44_34, t44_37, t44_38, t44_39, t44_42, t44_43, t44_46, t44_47, t44_50, t44_52, t44_53, t44_54, t44_57, t44_58, t44_61, t44_62, t44_65, t44_67, t44_69, t44_71, t44_74, t44_77, t44_78, t44_81, t44_83, t44_84, t44_87, t44_90, t44_91, t44_94, t44_96, t44_98, t44_99, t44_102, t44_103, t44_106, t44_108, t44_109, t44_112, t44_115, t44_116, t44_119, t44_121, t44_123, t44_124, t44_127, t44_128, t44_131, t44_133, t44_134, t44_135, t44_138, t44_140, t44_141, t44_144, t44_145, t44_146, t44_147, t44_150, t44_152, t44_154, t44_155, t44_156, t44_158, t44_160, t44_163, t44_166, t44_169, t44_170, t44_173, lk_s, hp_get, hp_set, uH_at, uH_ne, uH_upd, uH_swap, iZ_add, iZ_sub, iZ_mul, iZ_neg, iZ_lt, iZ_le, iZ_eq, iZ_div, iZ_of, ix_Z, gZ_map, gZ_mapI, gZ_map', le_0, le_s, sZ_map, sZ_len, bZ_0, bZ_inj, bZ_t, bZ_f, nr_i, nr_0, nr_1, nr_b, ft_i, ft_b, ft_0, ft_1, zl_0, zl_1, zl_241, l0, l1, l2, hg, mj, gF_len, gg_0, gg_1, gg_2, gg_3, gg_4, gg_5, gg_6, gg_7, gg_8, gs_7, gs_8, -List.filter_filter, -List.getElem?_map, -List.getD_eq_getElem?_getD]
  have hmain := l44r (w := w) (d + 1) hN hV (by omega) hSy hE e1 hEe x y _ 1 Ro (sZ Os 0 x) (sZ Ot 0 y) 0 1 _ e2 (by rw [sZ_len]; exact s1) (by rw [sZ_len]; exact s2) hr (fun i hi => by
    obtain rfl : i = 0 := by omega
    rw [o1, o2]
    omega) hJ1 rfl (by omega) (by omega) (Nat.le_refl _) C1 (by rw [lk_s hc]; exact l0) (by rw [lk_s hc]; rfl)
  rcases hmain with ⟨Ro', Os', Ot', wt', z1, z2, z3, z0, z4, z5⟩ | ⟨Ro', Os', Ot', lv', z1, z2, z3, z4, z5, z6, z7, z8⟩
  · have ef : gH w N l wt' Ro' Os' Ot' = fH w N l wt' Ro' Fi Os' Ot' := by
      unfold gH fH
      rw [uH_self (w := uH (uH w 16 (gO l wt')) 19 (cI 0 Ro')) (a := 21) (c := cI 1 Fi) (by rw [uH_ne (by omega), uH_ne (by omega)]; exact hF)]
    rw [ef] at z4
    refine ⟨Ro', Fi, Os', Ot', wt', false, z1, e3, z2, z3, hf, first _ ?_ z4, z0, (fun e => by cases e), fun _ => z5⟩
    unfold fH
    refine hp_le (Nat.le_refl _) (fun j _ => by (simp only [uH]; repeat' split) <;> simp_all [x_c1, sZ_len, gF_len])
  · have z5' := z5
    obtain ⟨f1, f2, f3, f4, f5, f6⟩ := z5'.fin (k := 80) (by omega)
    obtain ⟨j1, ⟨dm, j2⟩, -⟩ := z5
    obtain ⟨Ro2, Fi2, b, y1, y2, y3, y4, y5, y6, y7⟩ := m48 d (w := gW w l 0 Ro' Os' Ot') (N := N) (l := l) (wt := 0) (Sy := Sy) (Ee := Ee) (Ro := Ro') (P := P) hN hV (gW_16 _ _ _ _ _ _) (by rw [gW_o _ _ _ _ _ (by omega)]; exact hSy) (by rw [gW_o _ _ _ _ _ (by omega)]; exact hE) e1 hEe (gW_19 _ _ _ _ _ _) z1 z4 (Fi := Fi) (by rw [gW_o _ _ _ _ _ (by omega)]; exact hF) e3 hf j1 j2
    have y8 := y4.1
    refine ⟨Ro2, Fi2, Os', Ot', 0, b, y1, y8, z2, z3, y4.2.1, first _ ?_ (z8 _ (Gx.fin 20 y7 (fun C mm => ?_))), y2, fun e => ?_, fun e => ?_⟩
    · unfold fH
      refine hp_le (Nat.le_refl _) (fun j _ => by (simp only [uH]; repeat' split) <;> simp_all [x_c1, sZ_len, gF_len])
    · unfold gW aH at mm
      cases b <;> simp (disch := first | (refine c1_id ?_; assumption) | (refine c1_st rfl ?_; repeat (first | assumption | refine c1_st rfl ?_)) | omega) [nx_l, nx_r, nx_n, x_st, x_push, x_bin, x_div, x_un, x_dup, x_pop, x_dup2, x_goto, x_ifeq, x_ifne, x_iflt, x_ifge, x_ifgt, x_ifle, x_iceq, x_icne, x_iclt, x_icge, x_icgt, x_icle, x_ifnull, x_ifnonnull, x_ldi, x_lda, x_sti, x_sta, x_iinc, x_gf, x_pf, x_ald, x_ast, x_aln, x_len, x_cl_, x_cv, x_cs, x_rc, x_r0, x_isT, x_oi, x_rv, x_ri, x_ra, Value.category, t44_0, t44_1, t44_2, t44_5, t44_6, t44_7, t44_8, t44_11, t44_12, t44_13, t44_14, t44_17, t44_20, t44_21, t44_24, t44_27, t44_28, t44_29, t44_32, t44_33, t44_34, t44_37, t44_38, t44_39, t44_42, t44_43, t44_46, t44_47, t44_50, t44_52, t44_53, t44_54, t44_57, t44_58, t44_61, t44_62, t44_65, t44_67, t44_69, t44_71, t44_74, t44_77, t44_78, t44_81, t44_83, t44_84, t44_87, t44_90, t44_91, t44_94, t44_96, t44_98, t44_99, t44_102, t44_103, t44_106, t44_108, t44_109, t44_112, t44_115, t44_116, t44_119, t44_121, t44_123, t44_124, t44_127, t44_128, t44_131, t44_133, t44_134, t44_135, t44_138, t44_140, t44_141, t44_144, t44_145, t44_146, t44_147, t44_150, t44_152, t44_154, t44_155, t44_156, t44_158, t44_160, t44_163, t44_166, t44_169, t44_170, t44_173, lk_s, hp_get, hp_set, uH_at, uH_ne, uH_upd, uH_swap, iZ_add, iZ_sub, iZ_mul, iZ_neg, iZ_lt, iZ_le, iZ_eq, iZ_div, iZ_of, ix_Z, gZ_map, gZ_mapI, gZ_map', le_0, le_s, sZ_map, sZ_len, bZ_0, bZ_inj, bZ_t, bZ_f, nr_i, nr_0, nr_1, nr_b, ft_i, ft_b, ft_0, ft_1, zl_0, zl_1, zl_241, gH, fH, z7, mm, gF_len, gg_0, gg_1, gg_2, gg_3, gg_4, gg_5, gg_6, gg_7, gg_8, gs_7, gs_8, -List.filter_filter, -List.getElem?_map, -List.getD_eq_getElem?_getD]
    · obtain ⟨rk, B, hrk⟩ := y4.2.2.2
      have hGM : GM P (fdn (rF Ro') 80) rk B := ⟨f1, f2, f3, f4, fun i hi _ z hz => ((hrk _ (f1 i hi) (y5 e _ (f1 i hi) (f2 i hi))).2 z hz).2, fun i hi => (hrk _ (f1 i hi) (y5 e _ (f1 i hi) (f2 i hi))).1⟩
      exact ⟨fdn (rF Ro') 80, rk, B, hGM, y3, sg_Mg v6 hGM.1 hGM.2.1 hGM.2.2.1 hGM.2.2.2.1 hGM.2.2.2.2.1 hGM.2.2.2.2.2 hxy.1 hxy.2 (f5 hxy.1 hxy.2) f6⟩
    · intro θ hθ ev
      exact Stk_no v6 f1 f2 y4.2.1 (y6 e) (f6 θ hθ ev)
end GA2
