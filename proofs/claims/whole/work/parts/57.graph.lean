/-! the class's unify: its loop -/

section GU
variable {w : Nat → xC} {N : Nat} {l : Int} {Sy Ee P : List Int}
theorem hr_set {Ro : List Int} (s0 : Ro.length = 80) (hr : ∀ i, 0 ≤ i → i < 80 → 0 ≤ gZ Ro i ∧ gZ Ro i < 80) {a b : Nat} (ha : a < 80) (hb : b < 80) : ∀ i, 0 ≤ i → i < 80 → 0 ≤ gZ (sZ Ro a b) i ∧ gZ (sZ Ro a b) i < 80 := fun i h0 h1 => by
  rw [gZ_sZ (by omega) (by omega) h0]
  split
  · omega
  · exact hr i h0 h1
set_option maxHeartbeats 4000000 in
theorem l44 (d : Nat) (hN : 53 ≤ N) (hV : GV P Sy l) (hP : 0 < P.length) (hSy : w 17 = cI 0 Sy) (hE : w 18 = cI 0 Ee) (e1 : Ee.length = 80) (hEe : ∀ i, 0 ≤ i → i < l → gZ Ee i = i + (tm P i.toNat).length) (x y : Nat) : ∀ (n t : Nat) (Ro Os Ot : List Int) (k wt : Int) (lv : xL), Ro.length = 80 → Os.length = 241 → Ot.length = 241 → (∀ i, 0 ≤ i → i < 80 → 0 ≤ gZ Ro i ∧ gZ Ro i < 80) → (∀ i : Nat, i < t → 0 ≤ gZ Os i ∧ 0 ≤ gZ Ot i) → UJ P x y (rF Ro) (wps Os Ot t) → wt = t → 0 ≤ k → k + wt + 3 * (rc (rF Ro) P.length : Int) ≤ 1 + 3 * (P.length : Int) → t + 3 * rc (rF Ro) P.length ≤ n → c1 lv → x_lk lv 0 = some (.ref 19) → x_lk lv 3 = some (.int (iZ k)) →
    (∃ (Ro' Os' Ot' : List Int) (wt' : Int), Ro'.length = 80 ∧ Os'.length = 241 ∧ Ot'.length = 241 ∧ Gx q_k44 (d + 2) 13 (lv, [], gH w N l wt Ro Os Ot) (some (.int (iZ 0)), gH w N l wt' Ro' Os' Ot') ∧ ∀ θ, Tσ θ → sub θ (tm P x) ≠ sub θ (tm P y)) ∨
    (∃ (Ro' Os' Ot' : List Int) (lv' : xL), Ro'.length = 80 ∧ Os'.length = 241 ∧ Ot'.length = 241 ∧ (∀ i, 0 ≤ i → i < 80 → 0 ≤ gZ Ro' i ∧ gZ Ro' i < 80) ∧ UJ P x y (rF Ro') [] ∧ c1 lv' ∧ x_lk lv' 0 = some (.ref 19) ∧ ∀ res, Gx q_k44 (d + 2) 169 (lv', [], gH w N l 0 Ro' Os' Ot') res → Gx q_k44 (d + 2) 13 (lv, [], gH w N l wt Ro Os Ot) res) := by
  obtain ⟨v1, v2, v3, v4, v5, v6⟩ := hV
  intro n
  induction n with
  | zero =>
    intro t Ro Os Ot k wt lv s0 s1 s2 hr hnn hJ hwt k0 hkw hn
    exfalso
    obtain ⟨h1, ⟨dm, h2⟩, -⟩ := hJ
    have := rc_pos (fdn_lt h1 80 0 hP) (fdn_is h1 h2 (k := 80) (by omega) hP)
    omega
  | succ n ih =>
    intro t Ro Os Ot k wt lv s0 s1 s2 hr hnn hJ hwt k0 hkw hn hc l0 l3
    have hJ' := hJ
    obtain ⟨h1, ⟨dm, h2⟩, -⟩ := hJ'
    have hpos := rc_pos (fdn_lt h1 80 0 hP) (fdn_is h1 h2 (k := 80) (by omega) hP)
    cases t with
    | zero =>
      have hw0 : wt = 0 := by simpa using hwt
      subst hw0
      refine Or.inr ⟨Ro, Os, Ot, lv, s0, s1, s2, hr, hJ, hc, l0, fun res k3 => Gx.run 20 Cs.tt (fun C _ => ?_) k3⟩
      have b1 : ¬ 241 ≤ k := by omega
      simp (disch := first | (refine c1_id ?_; assumption) | (refine c1_st rfl ?_; repeat (first | assumption | refine c1_st rfl ?_)) | omega) [nx_l, nx_r, nx_n, x_st, x_push, x_bin, x_div, x_un, x_dup, x_pop, x_dup2, x_goto, x_ifeq, x_ifne, x_iflt, x_ifge, x_ifgt, x_ifle, x_iceq, x_icne, x_iclt, x_icge, x_icgt, x_icle, x_ifnull, x_ifnonnull, x_ldi, x_lda, x_sti, x_sta, x_iinc, x_gf, x_pf, x_ald, x_ast, x_aln, x_len, x_cl_, x_cv, x_cs, x_rc, x_r0, x_isT, x_oi, x_rv, x_ri, x_ra, Value.category, t44_0, t44_1, t44_2, t44_5, t44_6, t44_7, t44_8, t44_11, t44_12, t44_13, t44_14, t44_17, t44_20, t44_21, t44_24, t44_27, t44_28, t44_29, t44_32, t44_33, t44_34, t44_37, t44_38, t44_39, t44_42, t44_43, t44_46, t44_47, t44_50, t44_52, t44_53, t44_54, t44_57, t44_58, t44_61, t44_62, t44_65, t44_67, t44_69, t44_71, t44_74, t44_77, t44_78, t44_81, t44_83, t44_84, t44_87, t44_90, t44_91, t44_94, t44_96, t44_98, t44_99, t44_102, t44_103, t44_106, t44_108, t44_109, t44_112, t44_115, t44_116, t44_119, t44_121, t44_123, t44_124, t44_127, t44_128, t44_131, t44_133, t44_134, t44_135, t44_138, t44_140, t44_141, t44_144, t44_145, t44_146, t44_147, t44_150, t44_152, t44_154, t44_155, t44_156, t44_158, t44_160, t44_163, t44_166, t44_169, t44_170, t44_173, lk_s, hp_get, hp_set, uH_at, uH_ne, uH_upd, uH_swap, iZ_add, iZ_sub, iZ_mul, iZ_neg, iZ_lt, iZ_le, iZ_eq, iZ_div, iZ_of, ix_Z, gZ_map, gZ_mapI, gZ_map', le_0, le_s, sZ_map, sZ_len, bZ_0, bZ_inj, bZ_t, bZ_f, nr_i, nr_0, nr_1, nr_b, ft_i, ft_b, ft_0, ft_1, zl_0, zl_1, zl_241, gH, l0, l3, b1, gF_len, gg_0, gg_1, gg_2, gg_3, gg_4, gg_5, gg_6, gg_7, gg_8, gs_7, gs_8, -List.filter_filter, -List.getElem?_map, -List.getD_eq_getElem?_getD]
    | succ t =>
      have ew : wt - 1 = (t : Int) := by omega
      have hn1 := hnn t (Nat.lt_succ_self _)
      rw [← ew] at hn1
      have hJ2 : UJ P x y (rF Ro) (((gZ Os (wt - 1)).toNat, (gZ Ot (wt - 1)).toNat) :: wps Os Ot t) := by
        rw [ew]
        exact hJ
      have hpq := hJ2.2.2.2.2.2.2 _ List.mem_cons_self
      dsimp only at hpq
      obtain ⟨lv1, g1, g2, g3, g4, g5, cut⟩ := l44_13 (w := w) d hN (l := l) (by omega) v2 Ro Os Ot s0 s1 s2 hr wt k (by omega) (by omega) k0 (by omega) hn1.1 (by omega) hn1.2 (by omega) lv hc l0 l3
      have la := fdn_lt h1 80 _ hpq.1
      have lb := fdn_lt h1 80 _ hpq.2
      have ta := fdn_is h1 h2 (k := 80) (by omega) hpq.1
      have tb := fdn_is h1 h2 (k := 80) (by omega) hpq.2
      have Lsame := hJ2.same (k := 80) (by omega)
      have Lclash := UJ.clash (k := 80) v6 hJ2 (by omega)
      have Llink := UJ.link (k := 80) (V := []) hJ2 (by omega)
      have Llink2 := UJ.link (k := 80) (V := []) hJ2.flip (by omega)
      have Lsons := UJ.sons (k := 80) v6 hJ2 (by omega)
      generalize fdn (rF Ro) 80 (gZ Os (wt - 1)).toNat = a at *
      generalize fdn (rF Ro) 80 (gZ Ot (wt - 1)).toNat = b at *
      obtain ⟨a1, a2, a3⟩ := v4 a la
      obtain ⟨b1, b2, b3⟩ := v4 b lb
      have a4 := vs_lo a1
      have a5 := vs_hi a1
      have b4 := vs_lo b1
      have b5 := vs_hi b1
      have hnn' : ∀ i : Nat, i < t → 0 ≤ gZ Os i ∧ 0 ≤ gZ Ot i := fun i hi => hnn i (Nat.lt_succ_of_lt hi)
      have C1 := c1_st (i := 3) (v := .int (iZ (k + 1))) rfl g1
      have f0 : x_lk ((3, .int (iZ (k + 1))) :: List.filter (x_keep 3) lv1) 0 = some (.ref 19) := by rw [lk_s g1]; exact g2
      have f3 : x_lk ((3, .int (iZ (k + 1))) :: List.filter (x_keep 3) lv1) 3 = some (.int (iZ (k + 1))) := by rw [lk_s g1]; rfl
      have step : ∀ {Ro' Os' Ot' : List Int} {wt' : Int}, (∀ res, Gx q_k44 (d + 2) 13 ((3, .int (iZ (k + 1))) :: List.filter (x_keep 3) lv1, [], gH w N l wt' Ro' Os' Ot') res → Gx q_k44 (d + 2) 67 (lv1, [], gH w N l (wt - 1) Ro Os Ot) res) →
          ((∃ (Ro2 Os2 Ot2 : List Int) (wt2 : Int), Ro2.length = 80 ∧ Os2.length = 241 ∧ Ot2.length = 241 ∧ Gx q_k44 (d + 2) 13 ((3, .int (iZ (k + 1))) :: List.filter (x_keep 3) lv1, [], gH w N l wt' Ro' Os' Ot') (some (.int (iZ 0)), gH w N l wt2 Ro2 Os2 Ot2) ∧ ∀ θ, Tσ θ → sub θ (tm P x) ≠ sub θ (tm P y)) ∨
           (∃ (Ro2 Os2 Ot2 : List Int) (lv2 : xL), Ro2.length = 80 ∧ Os2.length = 241 ∧ Ot2.length = 241 ∧ (∀ i, 0 ≤ i → i < 80 → 0 ≤ gZ Ro2 i ∧ gZ Ro2 i < 80) ∧ UJ P x y (rF Ro2) [] ∧ c1 lv2 ∧ x_lk lv2 0 = some (.ref 19) ∧ ∀ res, Gx q_k44 (d + 2) 169 (lv2, [], gH w N l 0 Ro2 Os2 Ot2) res → Gx q_k44 (d + 2) 13 ((3, .int (iZ (k + 1))) :: List.filter (x_keep 3) lv1, [], gH w N l wt' Ro' Os' Ot') res)) →
          ((∃ (Ro2 Os2 Ot2 : List Int) (wt2 : Int), Ro2.length = 80 ∧ Os2.length = 241 ∧ Ot2.length = 241 ∧ Gx q_k44 (d + 2) 13 (lv, [], gH w N l wt Ro Os Ot) (some (.int (iZ 0)), gH w N l wt2 Ro2 Os2 Ot2) ∧ ∀ θ, Tσ θ → sub θ (tm P x) ≠ sub θ (tm P y)) ∨
           (∃ (Ro2 Os2 Ot2 : List Int) (lv2 : xL), Ro2.length = 80 ∧ Os2.length = 241 ∧ Ot2.length = 241 ∧ (∀ i, 0 ≤ i → i < 80 → 0 ≤ gZ Ro2 i ∧ gZ Ro2 i < 80) ∧ UJ P x y (rF Ro2) [] ∧ c1 lv2 ∧ x_lk lv2 0 = some (.ref 19) ∧ ∀ res, Gx q_k44 (d + 2) 169 (lv2, [], gH w N l 0 Ro2 Os2 Ot2) res → Gx q_k44 (d + 2) 13 (lv, [], gH w N l wt Ro Os Ot) res)) := by
        intro Ro' Os' Ot' wt' hst hh
        rcases hh with ⟨R2, O2, T2, w2, q1, q2, q3, q4, q5⟩ | ⟨R2, O2, T2, lv2, q1, q2, q3, q4, q5, q6, q7, q8⟩
        · exact Or.inl ⟨R2, O2, T2, w2, q1, q2, q3, cut _ (hst _ q4), q5⟩
        · exact Or.inr ⟨R2, O2, T2, lv2, q1, q2, q3, q4, q5, q6, q7, fun res k3 => cut _ (hst _ (q8 res k3))⟩
      by_cases hab : a = b
      · refine step (Ro' := Ro) (Os' := Os) (Ot' := Ot) (wt' := wt - 1) (fun res k3 => Gx.run 20 Cs.tt (fun C _ => ?_) k3) (ih t Ro Os Ot (k + 1) (wt - 1) _ s0 s1 s2 hr hnn' (Lsame hab) ew (by omega) (by omega) (by omega) C1 f0 f3)
        subst hab
        simp (disch := first | (refine c1_id ?_; assumption) | (refine c1_st rfl ?_; repeat (first | assumption | refine c1_st rfl ?_)) | omega) [nx_l, nx_r, nx_n, x_st, x_push, x_bin, x_div, x_un, x_dup, x_pop, x_dup2, x_goto, x_ifeq, x_ifne, x_iflt, x_ifge, x_ifgt, x_ifle, x_iceq, x_icne, x_iclt, x_icge, x_icgt, x_icle, x_ifnull, x_ifnonnull, x_ldi, x_lda, x_sti, x_sta, x_iinc, x_gf, x_pf, x_ald, x_ast, x_aln, x_len, x_cl_, x_cv, x_cs, x_rc, x_r0, x_isT, x_oi, x_rv, x_ri, x_ra, Value.category, t44_0, t44_1, t44_2, t44_5, t44_6, t44_7, t44_8, t44_11, t44_12, t44_13, t44_14, t44_17, t44_20, t44_21, t44_24, t44_27, t44_28, t44_29, t44_32, t44_33, t44_34, t44_37, t44_38, t44_39, t44_42, t44_43, t44_46, t44_47, t44_50, t44_52, t44_53, t44_54, t44_57, t44_58, t44_61, t44_62, t44_65, t44_67, t44_69, t44_71, t44_74, t44_77, t44_78, t44_81, t44_83, t44_84, t44_87, t44_90, t44_91, t44_94, t44_96, t44_98, t44_99, t44_102, t44_103, t44_106, t44_108, t44_109, t44_112, t44_115, t44_116, t44_119, t44_121, t44_123, t44_124, t44_127, t44_128, t44_131, t44_133, t44_134, t44_135, t44_138, t44_140, t44_141, t44_144, t44_145, t44_146, t44_147, t44_150, t44_152, t44_154, t44_155, t44_156, t44_158, t44_160, t44_163, t44_166, t44_169, t44_170, t44_173, lk_s, hp_get, hp_set, uH_at, uH_ne, uH_upd, uH_swap, iZ_add, iZ_sub, iZ_mul, iZ_neg, iZ_lt, iZ_le, iZ_eq, iZ_div, iZ_of, ix_Z, gZ_map, gZ_mapI, gZ_map', le_0, le_s, sZ_map, sZ_len, bZ_0, bZ_inj, bZ_t, bZ_f, nr_i, nr_0, nr_1, nr_b, ft_i, ft_b, ft_0, ft_1, zl_0, zl_1, zl_241, gH, g2, g3, g4, g5, -List.filter_filter, -List.getElem?_map, -List.getD_eq_getElem?_getD]
      · have mA := m2 (d + 1) (gW w l (wt - 1) Ro Os Ot) N (gZ Sy a) (by omega) (by omega)
        have mB := m2 (d + 1) (gW w l (wt - 1) Ro Os Ot) N (gZ Sy b) (by omega) (by omega)
        have nab : ¬ (a : Int) = (b : Int) := by omega
        by_cases hva : 128 ≤ gZ Sy a
        · -- the first is a variable
          have hd : decide (128 ≤ gZ Sy a) = true := decide_eq_true hva
          rw [hd] at mA
          have hJ3 := Llink hab (fun z => absurd (a3.mpr hva) z) (fun _ _ _ _ h => by cases h) (fun _ h => by cases h)
          rw [← rF_ups s0 (by omega), List.nil_append] at hJ3
          have hrc := rc_ups (R := rF Ro) la ta hab
          rw [← rF_ups s0 (by omega)] at hrc
          refine step (Ro' := sZ Ro a b) (Os' := Os) (Ot' := Ot) (wt' := wt - 1) (fun res k3 => Gx.run 40 mA (fun C mA => ?_) k3) (ih t (sZ Ro a b) Os Ot (k + 1) (wt - 1) _ (by rw [sZ_len]; exact s0) s1 s2 (hr_set s0 hr (by omega) (by omega)) hnn' hJ3 ew (by omega) (by omega) (by omega) C1 f0 f3)
          unfold gW at mA
          simp (disch := first | (refine c1_id ?_; assumption) | (refine c1_st rfl ?_; repeat (first | assumption | refine c1_st rfl ?_)) | omega) [nx_l, nx_r, nx_n, x_st, x_push, x_bin, x_div, x_un, x_dup, x_pop, x_dup2, x_goto, x_ifeq, x_ifne, x_iflt, x_ifge, x_ifgt, x_ifle, x_iceq, x_icne, x_iclt, x_icge, x_icgt, x_icle, x_ifnull, x_ifnonnull, x_ldi, x_lda, x_sti, x_sta, x_iinc, x_gf, x_pf, x_ald, x_ast, x_aln, x_len, x_cl_, x_cv, x_cs, x_rc, x_r0, x_isT, x_oi, x_rv, x_ri, x_ra, Value.category, t44_0, t44_1, t44_2, t44_5, t44_6, t44_7, t44_8, t44_11, t44_12, t44_13, t44_14, t44_17, t44_20, t44_21, t44_24, t44_27, t44_28, t44_29, t44_32, t44_33, t44_34, t44_37, t44_38, t44_39, t44_42, t44_43, t44_46, t44_47, t44_50, t44_52, t44_53, t44_54, t44_57, t44_58, t44_61, t44_62, t44_65, t44_67, t44_69, t44_71, t44_74, t44_77, t44_78, t44_81, t44_83, t44_84, t44_87, t44_90, t44_91, t44_94, t44_96, t44_98, t44_99, t44_102, t44_103, t44_106, t44_108, t44_109, t44_112, t44_115, t44_116, t44_119, t44_121, t44_123, t44_124, t44_127, t44_128, t44_131, t44_133, t44_134, t44_135, t44_138, t44_140, t44_141, t44_144, t44_145, t44_146, t44_147, t44_150, t44_152, t44_154, t44_155, t44_156, t44_158, t44_160, t44_163, t44_166, t44_169, t44_170, t44_173, lk_s, hp_get, hp_set, uH_at, uH_ne, uH_upd, uH_swap, iZ_add, iZ_sub, iZ_mul, iZ_neg, iZ_lt, iZ_le, iZ_eq, iZ_div, iZ_of, ix_Z, gZ_map, gZ_mapI, gZ_map', le_0, le_s, sZ_map, sZ_len, bZ_0, bZ_inj, bZ_t, bZ_f, nr_i, nr_0, nr_1, nr_b, ft_i, ft_b, ft_0, ft_1, zl_0, zl_1, zl_241, gH, g2, g3, g4, g5, hSy, nab, mA, gF_len, gg_0, gg_1, gg_2, gg_3, gg_4, gg_5, gg_6, gg_7, gg_8, gs_7, gs_8, -List.filter_filter, -List.getElem?_map, -List.getD_eq_getElem?_getD]
        · have hd : decide (128 ≤ gZ Sy a) = false := decide_eq_false hva
          rw [hd] at mA
          by_cases hvb : 128 ≤ gZ Sy b
          · -- the second is a variable
            have hd2 : decide (128 ≤ gZ Sy b) = true := decide_eq_true hvb
            rw [hd2] at mB
            have hJ3 := Llink2 (Ne.symm hab) (fun z => absurd (b3.mpr hvb) z) (fun _ _ _ _ h => by cases h) (fun _ h => by cases h)
            rw [← rF_ups s0 (by omega), List.nil_append] at hJ3
            have hrc := rc_ups (R := rF Ro) lb tb (Ne.symm hab)
            rw [← rF_ups s0 (by omega)] at hrc
            refine step (Ro' := sZ Ro b a) (Os' := Os) (Ot' := Ot) (wt' := wt - 1) (fun res k3 => Gx.run 60 (mA.and mB) (fun C mm => ?_) k3) (ih t (sZ Ro b a) Os Ot (k + 1) (wt - 1) _ (by rw [sZ_len]; exact s0) s1 s2 (hr_set s0 hr (by omega) (by omega)) hnn' hJ3 ew (by omega) (by omega) (by omega) C1 f0 f3)
            obtain ⟨mA, mB⟩ := mm
            unfold gW at mA mB
            simp (disch := first | (refine c1_id ?_; assumption) | (refine c1_st rfl ?_; repeat (first | assumption | refine c1_st rfl ?_)) | omega) [nx_l, nx_r, nx_n, x_st, x_push, x_bin, x_div, x_un, x_dup, x_pop, x_dup2, x_goto, x_ifeq, x_ifne, x_iflt, x_ifge, x_ifgt, x_ifle, x_iceq, x_icne, x_iclt, x_icge, x_icgt, x_icle, x_ifnull, x_ifnonnull, x_ldi, x_lda, x_sti, x_sta, x_iinc, x_gf, x_pf, x_ald, x_ast, x_aln, x_len, x_cl_, x_cv, x_cs, x_rc, x_r0, x_isT, x_oi, x_rv, x_ri, x_ra, Value.category, t44_0, t44_1, t44_2, t44_5, t44_6, t44_7, t44_8, t44_11, t44_12, t44_13, t44_14, t44_17, t44_20, t44_21, t44_24, t44_27, t44_28, t44_29, t44_32, t44_33, t44_34, t44_37, t44_38, t44_39, t44_42, t44_43, t44_46, t44_47, t44_50, t44_52, t44_53, t44_54, t44_57, t44_58, t44_61, t44_62, t44_65, t44_67, t44_69, t44_71, t44_74, t44_77, t44_78, t44_81, t44_83, t44_84, t44_87, t44_90, t44_91, t44_94, t44_96, t44_98, t44_99, t44_102, t44_103, t44_106, t44_108, t44_109, t44_112, t44_115, t44_116, t44_119, t44_121, t44_123, t44_124, t44_127, t44_128, t44_131, t44_133, t44_134, t44_135, t44_138, t44_140, t44_141, t44_144, t44_145, t44_146, t44_147, t44_150, t44_152, t44_154, t44_155, t44_156, t44_158, t44_160, t44_163, t44_166, t44_169, t44_170, t44_173, lk_s, hp_get, hp_set, uH_at, uH_ne, uH_upd, uH_swap, iZ_add, iZ_sub, iZ_mul, iZ_neg, iZ_lt, iZ_le, iZ_eq, iZ_div, iZ_of, ix_Z, gZ_map, gZ_mapI, gZ_map', le_0, le_s, sZ_map, sZ_len, bZ_0, bZ_inj, bZ_t, bZ_f, nr_i, nr_0, nr_1, nr_b, ft_i, ft_b, ft_0, ft_1, zl_0, zl_1, zl_241, gH, g2, g3, g4, g5, hSy, nab, mA, mB, gF_len, gg_0, gg_1, gg_2, gg_3, gg_4, gg_5, gg_6, gg_7, gg_8, gs_7, gs_8, -List.filter_filter, -List.getElem?_map, -List.getD_eq_getElem?_getD]
          · have hd2 : decide (128 ≤ gZ Sy b) = false := decide_eq_false hvb
            rw [hd2] at mB
            have na : ¬ pz P a < 99 := fun z => hva (a3.mp z)
            have nb : ¬ pz P b < 99 := fun z => hvb (b3.mp z)
            by_cases hss : gZ Sy a = gZ Sy b
            · -- one sign
              have epz : pz P a = pz P b := (v5 a b la lb na nb).mpr hss
              have har := ar_le (pz P a)
              have hJ3 := Lsons hab na epz.symm
              rw [← rF_ups s0 (by omega)] at hJ3
              have hrc := rc_ups (R := rF Ro) la ta hab
              rw [← rF_ups s0 (by omega)] at hrc
              have hwp := wps_psh (W := []) (P := P) (Os := Os) (Ot := Ot) (t := t) (a := a) (b := b) s1 s2 (by omega) epz.symm
              have hJ4 := hJ3.perm (W' := wps (psh P Os t (ar (pz P a)) ((a : Int) + 1)) (psh P Ot t (ar (pz P a)) ((b : Int) + 1)) (t + ar (pz P a))) (fun q hq => Or.inl ((hwp q).mpr hq)) (fun q hq => Or.inl ((hwp q).mp hq))
              have mJ := m46 d (w := gW w l (wt - 1) (sZ Ro a b) Os Ot) (N := N) (P := P) (Sy := Sy) (Ee := Ee) (l := l) (wt := wt - 1) (Os := Os) (Ot := Ot) hN ⟨v1, v2, v3, v4, v5, v6⟩ (by rw [gW_o _ _ _ _ _ (by omega)]; exact hSy) (by rw [gW_o _ _ _ _ _ (by omega)]; exact hE) e1 hEe (gW_16 _ _ _ _ _ _) (gW_22 _ _ _ _ _ _) (gW_23 _ _ _ _ _ _) s1 s2 a b la lb na epz.symm (by omega) (by omega)
              have hnn2 : ∀ i : Nat, i < t + ar (pz P a) → 0 ≤ gZ (psh P Os t (ar (pz P a)) ((a : Int) + 1)) i ∧ 0 ≤ gZ (psh P Ot t (ar (pz P a)) ((b : Int) + 1)) i := fun i hi => by
                by_cases hi2 : i < t
                · rw [psh_low (by omega) (by omega) (by omega) (by omega), psh_low (by omega) (by omega) (by omega) (by omega)]
                  exact hnn' i hi2
                · obtain ⟨j, rfl⟩ : ∃ j, i = t + j := ⟨i - t, by omega⟩
                  rw [show ((t + j : Nat) : Int) = (t : Int) + (j : Int) by omega, psh_at (by omega) (by omega) (by omega) (by omega), psh_at (by omega) (by omega) (by omega) (by omega)]
                  omega
              refine step (Ro' := sZ Ro a b) (Os' := psh P Os t (ar (pz P a)) ((a : Int) + 1)) (Ot' := psh P Ot t (ar (pz P a)) ((b : Int) + 1)) (wt' := wt - 1 + ar (pz P a)) (fun res k3 => Gx.run 80 (mA.and (mB.and mJ)) (fun C mm => ?_) k3) (ih (t + ar (pz P a)) (sZ Ro a b) _ _ (k + 1) (wt - 1 + ar (pz P a)) _ (by rw [sZ_len]; exact s0) (by rw [psh_len]; exact s1) (by rw [psh_len]; exact s2) (hr_set s0 hr (by omega) (by omega)) hnn2 hJ4 (by omega) (by omega) (by omega) (by omega) C1 f0 f3)
              obtain ⟨mA, mB, mJ⟩ := mm
              unfold gW at mA mB mJ
              rw [ew] at mA mB mJ ⊢
              simp (disch := first | (refine c1_id ?_; assumption) | (refine c1_st rfl ?_; repeat (first | assumption | refine c1_st rfl ?_)) | omega) [nx_l, nx_r, nx_n, x_st, x_push, x_bin, x_div, x_un, x_dup, x_pop, x_dup2, x_goto, x_ifeq, x_ifne, x_iflt, x_ifge, x_ifgt, x_ifle, x_iceq, x_icne, x_iclt, x_icge, x_icgt, x_icle, x_ifnull, x_ifnonnull, x_ldi, x_lda, x_sti, x_sta, x_iinc, x_gf, x_pf, x_ald, x_ast, x_aln, x_len, x_cl_, x_cv, x_cs, x_rc, x_r0, x_isT, x_oi, x_rv, x_ri, x_ra, Value.category, t44_0, t44_1, t44_2, t44_5, t44_6, t44_7, t44_8, t44_11, t44_12, t44_13, t44_14, t44_17, t44_20, t44_21, t44_24, t44_27, t44_28, t44_29, t44_32, t44_33, t44_34, t44_37, t44_38, t44_39, t44_42, t44_43, t44_46, t44_47, t44_50, t44_52, t44_53, t44_54, t44_57, t44_58, t44_61, t44_62, t44_65, t44_67, t44_69, t44_71, t44_74, t44_77, t44_78, t44_81, t44_83, t44_84, t44_87, t44_90, t44_91, t44_94, t44_96, t44_98, t44_99, t44_102, t44_103, t44_106, t44_108, t44_109, t44_112, t44_115, t44_116, t44_119, t44_121, t44_123, t44_124, t44_127, t44_128, t44_131, t44_133, t44_134, t44_135, t44_138, t44_140, t44_141, t44_144, t44_145, t44_146, t44_147, t44_150, t44_152, t44_154, t44_155, t44_156, t44_158, t44_160, t44_163, t44_166, t44_169, t44_170, t44_173, lk_s, hp_get, hp_set, uH_at, uH_ne, uH_upd, uH_swap, iZ_add, iZ_sub, iZ_mul, iZ_neg, iZ_lt, iZ_le, iZ_eq, iZ_div, iZ_of, ix_Z, gZ_map, gZ_mapI, gZ_map', le_0, le_s, sZ_map, sZ_len, bZ_0, bZ_inj, bZ_t, bZ_f, nr_i, nr_0, nr_1, nr_b, ft_i, ft_b, ft_0, ft_1, zl_0, zl_1, zl_241, gH, g2, g3, g4, g5, hSy, nab, hss, mA, mB, mJ, gF_len, gg_0, gg_1, gg_2, gg_3, gg_4, gg_5, gg_6, gg_7, gg_8, gs_7, gs_8, -List.filter_filter, -List.getElem?_map, -List.getD_eq_getElem?_getD]
            · -- two signs
              have hno := Lclash na nb (fun z => hss ((v5 a b la lb na nb).mp z))
              refine Or.inl ⟨Ro, Os, Ot, wt - 1, s0, s1, s2, cut _ (Gx.fin 60 (mA.and mB) (fun C mm => ?_)), hno⟩
              obtain ⟨mA, mB⟩ := mm
              unfold gW at mA mB
              simp (disch := first | (refine c1_id ?_; assumption) | (refine c1_st rfl ?_; repeat (first | assumption | refine c1_st rfl ?_)) | omega) [nx_l, nx_r, nx_n, x_st, x_push, x_bin, x_div, x_un, x_dup, x_pop, x_dup2, x_goto, x_ifeq, x_ifne, x_iflt, x_ifge, x_ifgt, x_ifle, x_iceq, x_icne, x_iclt, x_icge, x_icgt, x_icle, x_ifnull, x_ifnonnull, x_ldi, x_lda, x_sti, x_sta, x_iinc, x_gf, x_pf, x_ald, x_ast, x_aln, x_len, x_cl_, x_cv, x_cs, x_rc, x_r0, x_isT, x_oi, x_rv, x_ri, x_ra, Value.category, t44_0, t44_1, t44_2, t44_5, t44_6, t44_7, t44_8, t44_11, t44_12, t44_13, t44_14, t44_17, t44_20, t44_21, t44_24, t44_27, t44_28, t44_29, t44_32, t44_33, t44_34, t44_37, t44_38, t44_39, t44_42, t44_43, t44_46, t44_47, t44_50, t44_52, t44_53, t44_54, t44_57, t44_58, t44_61, t44_62, t44_65, t44_67, t44_69, t44_71, t44_74, t44_77, t44_78, t44_81, t44_83, t44_84, t44_87, t44_90, t44_91, t44_94, t44_96, t44_98, t44_99, t44_102, t44_103, t44_106, t44_108, t44_109, t44_112, t44_115, t44_116, t44_119, t44_121, t44_123, t44_124, t44_127, t44_128, t44_131, t44_133, t44_134, t44_135, t44_138, t44_140, t44_141, t44_144, t44_145, t44_146, t44_147, t44_150, t44_152, t44_154, t44_155, t44_156, t44_158, t44_160, t44_163, t44_166, t44_169, t44_170, t44_173, lk_s, hp_get, hp_set, uH_at, uH_ne, uH_upd, uH_swap, iZ_add, iZ_sub, iZ_mul, iZ_neg, iZ_lt, iZ_le, iZ_eq, iZ_div, iZ_of, ix_Z, gZ_map, gZ_mapI, gZ_map', le_0, le_s, sZ_map, sZ_len, bZ_0, bZ_inj, bZ_t, bZ_f, nr_i, nr_0, nr_1, nr_b, ft_i, ft_b, ft_0, ft_1, zl_0, zl_1, zl_241, gH, g2, g3, g4, g5, hSy, nab, hss, mA, mB, gF_len, gg_0, gg_1, gg_2, gg_3, gg_4, gg_5, gg_6, gg_7, gg_8, gs_7, gs_8, -List.filter_filter, -List.getElem?_map, -List.getD_eq_getElem?_getD]
end GU
