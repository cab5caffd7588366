/-! the class's graph: areAllFinite, whole -/

/-- nothing more can be found finite, and something is not -/
def Stk (P : List Int) (fd : Nat → Nat) (Fi : List Int) : Prop := (∀ r : Nat, r < P.length → fd r = r → gZ Fi r = 0 → allF P fd Fi r = false) ∧ ∃ r : Nat, r < P.length ∧ fd r = r ∧ gZ Fi r = 0
theorem Stk_no {P : List Int} {fd : Nat → Nat} {Fi : List Int} (hT : ∀ i, i < P.length → Ts 1 (tm P i)) (hlt : ∀ i, i < P.length → fd i < P.length) (hid : ∀ i, i < P.length → fd (fd i) = fd i) (h01 : ∀ i, gZ Fi i = 0 ∨ gZ Fi i = 1) (h : Stk P fd Fi) {θ : Int → List Int} (h7 : ∀ i, i < P.length → sub θ (tm P i) = sub θ (tm P (fd i))) : False := by
  obtain ⟨h1, r0, hr0, hf0, h00⟩ := h
  have key : ∀ (n r : Nat), (sub θ (tm P r)).length ≤ n → r < P.length → fd r = r → gZ Fi r = 0 → False := by
    intro n
    induction n with
    | zero =>
      intro r hn hr hf h0
      have ha := h1 r hr hf h0
      have hx : ∃ x ∈ args P r, ¬ gZ Fi (fd x) = 1 := by
        refine Classical.byContradiction (fun hne => ?_)
        have : allF P fd Fi r = true := List.all_eq_true.mpr (fun x hx => decide_eq_true (Classical.byContradiction (fun z => hne ⟨x, hx, z⟩)))
        rw [this] at ha
        cases ha
      obtain ⟨x, hx, -⟩ := hx
      have hv : ¬ pz P r < 99 := fun z => by
        unfold args at hx
        rw [ar_v z] at hx
        cases hx
      rw [val_f θ hr (hT r hr) hv] at hn
      simp at hn
    | succ n ih =>
      intro r hn hr hf h0
      have ha := h1 r hr hf h0
      have hx : ∃ x ∈ args P r, ¬ gZ Fi (fd x) = 1 := by
        refine Classical.byContradiction (fun hne => ?_)
        have : allF P fd Fi r = true := List.all_eq_true.mpr (fun x hx => decide_eq_true (Classical.byContradiction (fun z => hne ⟨x, hx, z⟩)))
        rw [this] at ha
        cases ha
      obtain ⟨x, hx, hx1⟩ := hx
      have hv : ¬ pz P r < 99 := fun z => by
        unfold args at hx
        rw [ar_v z] at hx
        cases hx
      have hxl := ((args_ok hr (hT r hr)).2 x hx).2.1
      have hb := (Bel.arg (ρ := θ) hr (hT r hr) hv hx).lt
      refine ih (fd x) (by rw [← h7 x hxl]; omega) (hlt x hxl) (hid x hxl) ?_
      rcases h01 (fd x) with z | z
      · exact z
      · exact absurd z hx1
  exact key _ r0 (Nat.le_refl _) hr0 hf0 h00
section AF
variable {w : Nat → xC} {N : Nat} {l wt : Int} {Sy Ee Ro P : List Int}
theorem l48_40 (d : Nat) (hN : 53 ≤ N) (hV : GV P Sy l) (hg : w 16 = gO l wt) (hSy : w 17 = cI 0 Sy) (hE : w 18 = cI 0 Ee) (e1 : Ee.length = 80) (hEe : ∀ i, 0 ≤ i → i < l → gZ Ee i = i + (tm P i.toNat).length) (hR : w 19 = cI 0 Ro) (e2 : Ro.length = 80) (hr : ∀ i, 0 ≤ i → i < 80 → 0 ≤ gZ Ro i ∧ gZ Ro i < 80) (fd : Nat → Nat) (hfd : ∀ i : Nat, i < P.length → gZ Ro i = fd i) (hlt : ∀ i, i < P.length → fd i < P.length) : ∀ (n : Nat) (rd : Int) (Fi : List Int) (cg al : Bool) (lv : xL), 82 - rd ≤ n → 0 ≤ rd → rd ≤ 81 → FI P fd Fi → (al = true → ∀ r : Nat, r < P.length → fd r = r → gZ Fi r = 1) → (cg = false → al = false → Stk P fd Fi) → (cg = true → rd ≤ (cn P Fi : Int)) → c1 lv → x_lk lv 0 = some (.ref 19) → x_lk lv 1 = some (.int (iZ (bZ cg))) → x_lk lv 2 = some (.int (iZ (bZ al))) → x_lk lv 3 = some (.int (iZ rd)) →
    ∃ (Fi' : List Int) (b : Bool), FI P fd Fi' ∧ (b = true → ∀ r : Nat, r < P.length → fd r = r → gZ Fi' r = 1) ∧ (b = false → Stk P fd Fi') ∧ Gx q_k48 (d + 2) 40 (lv, [], hp (uH w 21 (cI 1 Fi)) N) (some (.int (iZ (bZ b))), hp (uH w 21 (cI 1 Fi')) N) := by
  have hV' := hV
  obtain ⟨v1, v2, v3, v4, v5, v6⟩ := hV'
  intro n
  induction n with
  | zero => intro rd Fi cg al lv hn h0 h1; omega
  | succ n ih =>
    intro rd Fi cg al lv hn h0 h1 hF hal hst hcn hc l0 l1 l2 l3
    have hle : cn P Fi ≤ P.length := by
      have := List.countP_le_length (p := fun i : Nat => decide (gZ Fi (i : Int) = 1)) (l := List.range P.length)
      rw [List.length_range] at this
      exact this
    by_cases hgo : cg = true ∧ al = false
    · obtain ⟨rfl, rfl⟩ := hgo
      have hrd := hcn rfl
      have hW0 : SW P fd Fi Fi (l - 1) false true := ⟨hF, fun _ _ z => z, fun _ r hr hp _ => by omega, fun _ => ⟨fun _ _ => rfl, fun r hr hp _ _ => by omega, (fun e => by cases e)⟩, (fun e => by cases e)⟩
      have C1 := c1_st (i := 1) (v := .int (iZ (bZ false))) rfl hc
      have C2 := c1_st (i := 2) (v := .int (iZ (bZ true))) rfl C1
      have C3 := c1_st (i := 4) (v := .int (iZ (l - 1))) rfl C2
      obtain ⟨Fi', cg', al', lv', z1, z2, z3, z4, z5, z6, z7⟩ := l48_66 d hN hV hg hSy hE e1 hEe hR e2 hr fd hfd hlt Fi rd P.length (l - 1) Fi false true _ (Nat.le_refl _) (by omega) hW0 C3 (by rw [lk_s C2, lk_s C1, lk_s hc]; exact l0) (by rw [lk_s C2, lk_s C1, lk_s hc]; rfl) (by rw [lk_s C2, lk_s C1]; rfl) (by rw [lk_s C2, lk_s C1, lk_s hc]; exact l3) (by rw [lk_s C2]; rfl)
      obtain ⟨y1, y2, y3, y4, y5⟩ := z1
      have C4 := c1_st (i := 3) (v := .int (iZ (rd + 1))) rfl z2
      obtain ⟨Fi2, b, x1, x2, x3, x4⟩ := ih (rd + 1) Fi' cg' al' _ (by omega) (by omega) (by omega) y1 (fun e r hr hf => y3 e r hr (by omega) hf) (fun e e' => ⟨fun r hr hf z => (y4 e).2.1 r hr (by omega) hf z, (y4 e).2.2 e'⟩) (fun e => by have := y5 e; omega) C4 (by rw [lk_s z2]; exact z3) (by rw [lk_s z2]; exact z4) (by rw [lk_s z2]; exact z5) (by rw [lk_s z2]; rfl)
      refine ⟨Fi2, b, x1, x2, x3, Gx.run 60 Cs.tt (fun C _ => ?_) (z7 _ (Gx.run 20 Cs.tt (fun C _ => ?_) x4))⟩
      · have b1 : ¬ 80 < rd := by omega
        simp (disch := first | (refine c1_id ?_; assumption) | (refine c1_st rfl ?_; repeat (first | assumption | refine c1_st rfl ?_)) | omega) [nx_l, nx_r, nx_n, x_st, x_push, x_bin, x_div, x_un, x_dup, x_pop, x_dup2, x_goto, x_ifeq, x_ifne, x_iflt, x_ifge, x_ifgt, x_ifle, x_iceq, x_icne, x_iclt, x_icge, x_icgt, x_icle, x_ifnull, x_ifnonnull, x_ldi, x_lda, x_sti, x_sta, x_iinc, x_gf, x_pf, x_ald, x_ast, x_aln, x_len, x_cl_, x_cv, x_cs, x_rc, x_r0, x_isT, x_oi, x_rv, x_ri, x_ra, Value.category, t48_0, t48_1, t48_2, t48_3, t48_4, t48_7, t48_10, t48_11, t48_14, t48_15, t48_16, t48_17, t48_20, t48_21, t48_22, t48_25, t48_26, t48_27, t48_28, t48_31, t48_34, t48_35, t48_36, t48_37, t48_38, t48_39, t48_40, t48_41, t48_43, t48_46, t48_47, t48_50, t48_51, t48_54, t48_55, t48_56, t48_57, t48_58, t48_59, t48_62, t48_63, t48_64, t48_66, t48_68, t48_71, t48_72, t48_75, t48_77, t48_78, t48_80, t48_83, t48_84, t48_87, t48_89, t48_90, t48_93, t48_94, t48_97, t48_99, t48_100, t48_102, t48_105, t48_106, t48_107, t48_110, t48_111, t48_114, t48_116, t48_117, t48_120, t48_121, t48_124, t48_125, t48_126, t48_127, t48_130, t48_131, t48_134, t48_136, t48_137, t48_140, t48_141, t48_144, t48_145, t48_146, t48_149, t48_152, t48_155, t48_158, t48_159, lk_s, hp_get, hp_set, uH_at, uH_ne, uH_upd, uH_swap, iZ_add, iZ_sub, iZ_mul, iZ_neg, iZ_lt, iZ_le, iZ_eq, iZ_div, iZ_of, ix_Z, gZ_map, gZ_mapI, gZ_map', le_0, le_s, sZ_map, sZ_len, bZ_0, bZ_inj, bZ_t, bZ_f, nr_i, nr_0, nr_1, nr_b, ft_i, ft_b, ft_0, ft_1, zl_0, zl_1, zl_80, l0, l1, l2, l3, hg, b1, gF_len, gg_0, gg_1, gg_2, gg_3, gg_4, gg_5, gg_6, gg_7, gg_8, -List.filter_filter, -List.getElem?_map, -List.getD_eq_getElem?_getD]
      · simp (disch := first | (refine c1_id ?_; assumption) | (refine c1_st rfl ?_; repeat (first | assumption | refine c1_st rfl ?_)) | omega) [nx_l, nx_r, nx_n, x_st, x_push, x_bin, x_div, x_un, x_dup, x_pop, x_dup2, x_goto, x_ifeq, x_ifne, x_iflt, x_ifge, x_ifgt, x_ifle, x_iceq, x_icne, x_iclt, x_icge, x_icgt, x_icle, x_ifnull, x_ifnonnull, x_ldi, x_lda, x_sti, x_sta, x_iinc, x_gf, x_pf, x_ald, x_ast, x_aln, x_len, x_cl_, x_cv, x_cs, x_rc, x_r0, x_isT, x_oi, x_rv, x_ri, x_ra, Value.category, t48_0, t48_1, t48_2, t48_3, t48_4, t48_7, t48_10, t48_11, t48_14, t48_15, t48_16, t48_17, t48_20, t48_21, t48_22, t48_25, t48_26, t48_27, t48_28, t48_31, t48_34, t48_35, t48_36, t48_37, t48_38, t48_39, t48_40, t48_41, t48_43, t48_46, t48_47, t48_50, t48_51, t48_54, t48_55, t48_56, t48_57, t48_58, t48_59, t48_62, t48_63, t48_64, t48_66, t48_68, t48_71, t48_72, t48_75, t48_77, t48_78, t48_80, t48_83, t48_84, t48_87, t48_89, t48_90, t48_93, t48_94, t48_97, t48_99, t48_100, t48_102, t48_105, t48_106, t48_107, t48_110, t48_111, t48_114, t48_116, t48_117, t48_120, t48_121, t48_124, t48_125, t48_126, t48_127, t48_130, t48_131, t48_134, t48_136, t48_137, t48_140, t48_141, t48_144, t48_145, t48_146, t48_149, t48_152, t48_155, t48_158, t48_159, lk_s, hp_get, hp_set, uH_at, uH_ne, uH_upd, uH_swap, iZ_add, iZ_sub, iZ_mul, iZ_neg, iZ_lt, iZ_le, iZ_eq, iZ_div, iZ_of, ix_Z, gZ_map, gZ_mapI, gZ_map', le_0, le_s, sZ_map, sZ_len, bZ_0, bZ_inj, bZ_t, bZ_f, nr_i, nr_0, nr_1, nr_b, ft_i, ft_b, ft_0, ft_1, zl_0, zl_1, zl_80, z3, z6, -List.filter_filter, -List.getElem?_map, -List.getD_eq_getElem?_getD]
    · refine ⟨Fi, al, hF, hal, fun e => ?_, Gx.fin 40 Cs.tt (fun C _ => ?_)⟩
      · cases cg with
        | true => exact absurd ⟨rfl, e⟩ hgo
        | false => exact hst rfl e
      · by_cases b1 : 80 < rd
        · simp (disch := first | (refine c1_id ?_; assumption) | (refine c1_st rfl ?_; repeat (first | assumption | refine c1_st rfl ?_)) | omega) [nx_l, nx_r, nx_n, x_st, x_push, x_bin, x_div, x_un, x_dup, x_pop, x_dup2, x_goto, x_ifeq, x_ifne, x_iflt, x_ifge, x_ifgt, x_ifle, x_iceq, x_icne, x_iclt, x_icge, x_icgt, x_icle, x_ifnull, x_ifnonnull, x_ldi, x_lda, x_sti, x_sta, x_iinc, x_gf, x_pf, x_ald, x_ast, x_aln, x_len, x_cl_, x_cv, x_cs, x_rc, x_r0, x_isT, x_oi, x_rv, x_ri, x_ra, Value.category, t48_0, t48_1, t48_2, t48_3, t48_4, t48_7, t48_10, t48_11, t48_14, t48_15, t48_16, t48_17, t48_20, t48_21, t48_22, t48_25, t48_26, t48_27, t48_28, t48_31, t48_34, t48_35, t48_36, t48_37, t48_38, t48_39, t48_40, t48_41, t48_43, t48_46, t48_47, t48_50, t48_51, t48_54, t48_55, t48_56, t48_57, t48_58, t48_59, t48_62, t48_63, t48_64, t48_66, t48_68, t48_71, t48_72, t48_75, t48_77, t48_78, t48_80, t48_83, t48_84, t48_87, t48_89, t48_90, t48_93, t48_94, t48_97, t48_99, t48_100, t48_102, t48_105, t48_106, t48_107, t48_110, t48_111, t48_114, t48_116, t48_117, t48_120, t48_121, t48_124, t48_125, t48_126, t48_127, t48_130, t48_131, t48_134, t48_136, t48_137, t48_140, t48_141, t48_144, t48_145, t48_146, t48_149, t48_152, t48_155, t48_158, t48_159, lk_s, hp_get, hp_set, uH_at, uH_ne, uH_upd, uH_swap, iZ_add, iZ_sub, iZ_mul, iZ_neg, iZ_lt, iZ_le, iZ_eq, iZ_div, iZ_of, ix_Z, gZ_map, gZ_mapI, gZ_map', le_0, le_s, sZ_map, sZ_len, bZ_0, bZ_inj, bZ_t, bZ_f, nr_i, nr_0, nr_1, nr_b, ft_i, ft_b, ft_0, ft_1, zl_0, zl_1, zl_80, l0, l1, l2, l3, b1, -List.filter_filter, -List.getElem?_map, -List.getD_eq_getElem?_getD]
        · cases cg with
          | false => simp (disch := first | (refine c1_id ?_; assumption) | (refine c1_st rfl ?_; repeat (first | assumption | refine c1_st rfl ?_)) | omega) [nx_l, nx_r, nx_n, x_st, x_push, x_bin, x_div, x_un, x_dup, x_pop, x_dup2, x_goto, x_ifeq, x_ifne, x_iflt, x_ifge, x_ifgt, x_ifle, x_iceq, x_icne, x_iclt, x_icge, x_icgt, x_icle, x_ifnull, x_ifnonnull, x_ldi, x_lda, x_sti, x_sta, x_iinc, x_gf, x_pf, x_ald, x_ast, x_aln, x_len, x_cl_, x_cv, x_cs, x_rc, x_r0, x_isT, x_oi, x_rv, x_ri, x_ra, Value.category, t48_0, t48_1, t48_2, t48_3, t48_4, t48_7, t48_10, t48_11, t48_14, t48_15, t48_16, t48_17, t48_20, t48_21, t48_22, t48_25, t48_26, t48_27, t48_28, t48_31, t48_34, t48_35, t48_36, t48_37, t48_38, t48_39, t48_40, t48_41, t48_43, t48_46, t48_47, t48_50, t48_51, t48_54, t48_55, t48_56, t48_57, t48_58, t48_59, t48_62, t48_63, t48_64, t48_66, t48_68, t48_71, t48_72, t48_75, t48_77, t48_78, t48_80, t48_83, t48_84, t48_87, t48_89, t48_90, t48_93, t48_94, t48_97, t48_99, t48_100, t48_102, t48_105, t48_106, t48_107, t48_110, t48_111, t48_114, t48_116, t48_117, t48_120, t48_121, t48_124, t48_125, t48_126, t48_127, t48_130, t48_131, t48_134, t48_136, t48_137, t48_140, t48_141, t48_144, t48_145, t48_146, t48_149, t48_152, t48_155, t48_158, t48_159, lk_s, hp_get, hp_set, uH_at, uH_ne, uH_upd, uH_swap, iZ_add, iZ_sub, iZ_mul, iZ_neg, iZ_lt, iZ_le, iZ_eq, iZ_div, iZ_of, ix_Z, gZ_map, gZ_mapI, gZ_map', le_0, le_s, sZ_map, sZ_len, bZ_0, bZ_inj, bZ_t, bZ_f, nr_i, nr_0, nr_1, nr_b, ft_i, ft_b, ft_0, ft_1, zl_0, zl_1, zl_80, l0, l1, l2, l3, b1, -List.filter_filter, -List.getElem?_map, -List.getD_eq_getElem?_getD]
          | true =>
            cases al with
            | true => simp (disch := first | (refine c1_id ?_; assumption) | (refine c1_st rfl ?_; repeat (first | assumption | refine c1_st rfl ?_)) | omega) [nx_l, nx_r, nx_n, x_st, x_push, x_bin, x_div, x_un, x_dup, x_pop, x_dup2, x_goto, x_ifeq, x_ifne, x_iflt, x_ifge, x_ifgt, x_ifle, x_iceq, x_icne, x_iclt, x_icge, x_icgt, x_icle, x_ifnull, x_ifnonnull, x_ldi, x_lda, x_sti, x_sta, x_iinc, x_gf, x_pf, x_ald, x_ast, x_aln, x_len, x_cl_, x_cv, x_cs, x_rc, x_r0, x_isT, x_oi, x_rv, x_ri, x_ra, Value.category, t48_0, t48_1, t48_2, t48_3, t48_4, t48_7, t48_10, t48_11, t48_14, t48_15, t48_16, t48_17, t48_20, t48_21, t48_22, t48_25, t48_26, t48_27, t48_28, t48_31, t48_34, t48_35, t48_36, t48_37, t48_38, t48_39, t48_40, t48_41, t48_43, t48_46, t48_47, t48_50, t48_51, t48_54, t48_55, t48_56, t48_57, t48_58, t48_59, t48_62, t48_63, t48_64, t48_66, t48_68, t48_71, t48_72, t48_75, t48_77, t48_78, t48_80, t48_83, t48_84, t48_87, t48_89, t48_90, t48_93, t48_94, t48_97, t48_99, t48_100, t48_102, t48_105, t48_106, t48_107, t48_110, t48_111, t48_114, t48_116, t48_117, t48_120, t48_121, t48_124, t48_125, t48_126, t48_127, t48_130, t48_131, t48_134, t48_136, t48_137, t48_140, t48_141, t48_144, t48_145, t48_146, t48_149, t48_152, t48_155, t48_158, t48_159, lk_s, hp_get, hp_set, uH_at, uH_ne, uH_upd, uH_swap, iZ_add, iZ_sub, iZ_mul, iZ_neg, iZ_lt, iZ_le, iZ_eq, iZ_div, iZ_of, ix_Z, gZ_map, gZ_mapI, gZ_map', le_0, le_s, sZ_map, sZ_len, bZ_0, bZ_inj, bZ_t, bZ_f, nr_i, nr_0, nr_1, nr_b, ft_i, ft_b, ft_0, ft_1, zl_0, zl_1, zl_80, l0, l1, l2, l3, b1, -List.filter_filter, -List.getElem?_map, -List.getD_eq_getElem?_getD]
            | false => exact absurd ⟨rfl, rfl⟩ hgo
theorem m48 (d : Nat) (hN : 53 ≤ N) (hV : GV P Sy l) (hg : w 16 = gO l wt) (hSy : w 17 = cI 0 Sy) (hE : w 18 = cI 0 Ee) (e1 : Ee.length = 80) (hEe : ∀ i, 0 ≤ i → i < l → gZ Ee i = i + (tm P i.toNat).length) (hR : w 19 = cI 0 Ro) (e2 : Ro.length = 80) (hr : ∀ i, 0 ≤ i → i < 80 → 0 ≤ gZ Ro i ∧ gZ Ro i < 80) {Fi : List Int} (hF : w 21 = cI 1 Fi) (e3 : Fi.length = 80) (hf : ∀ i, gZ Fi i = 0 ∨ gZ Fi i = 1) {dm : Nat → Nat} (h1 : ∀ i, i < P.length → rF Ro i < P.length) (h2 : ∀ i, i < P.length → rF Ro i ≠ i → dm (rF Ro i) < dm i) :
    ∃ (Ro' Fi' : List Int) (b : Bool), Ro'.length = 80 ∧ (∀ i, 0 ≤ i → i < 80 → 0 ≤ gZ Ro' i ∧ gZ Ro' i < 80) ∧ (∀ i : Nat, i < P.length → gZ Ro' i = fdn (rF Ro) 80 i) ∧ FI P (fdn (rF Ro) 80) Fi' ∧ (b = true → ∀ r : Nat, r < P.length → fdn (rF Ro) 80 r = r → gZ Fi' r = 1) ∧ (b = false → Stk P (fdn (rF Ro) 80) Fi') ∧ Xc (d + 3) 48 [.ref 19] (hp w N) (some (.int (iZ (bZ b))), aH w N Ro' Fi') := by
  have hV' := hV
  obtain ⟨v1, v2, v3, v4, v5, v6⟩ := hV'
  have hc : c1 (lv_args 0 [.ref 19]) := by simp [c1, lv_args, Value.category]
  have l0 : x_lk (lv_args 0 [.ref 19]) 0 = some (.ref 19) := rfl
  have C1 := c1_st (i := 1) (v := .int (iZ 0)) rfl hc
  obtain ⟨Ro', Fi1, lv', q1, q2, q3, q4, q5, q6, q7, q8⟩ := l48_2 (w := w) (d + 1) hN hg v1 v2 h1 h2 P.length 0 Ro Fi _ e2 e3 hr hf (by omega) (by omega) (fun i hi => ⟨fun z => by omega, fun _ => rfl⟩) C1 (by rw [lk_s hc]; exact l0) (by rw [lk_s hc]; rfl)
  have hFI : FI P (fdn (rF Ro) 80) Fi1 := ⟨q2, q4, fun i hi z => by rw [(q5 i hi).2] at z; omega, fun _ => 0, 0, fun r hr z => by rw [(q5 r hr).2] at z; omega⟩
  have C2 := c1_st (i := 1) (v := .int (iZ (bZ true))) rfl q6
  have C3 := c1_st (i := 2) (v := .int (iZ (bZ false))) rfl C2
  have C4 := c1_st (i := 3) (v := .int (iZ 0)) rfl C3
  obtain ⟨Fi2, b, x1, x2, x3, x4⟩ := l48_40 (w := uH w 19 (cI 0 Ro')) d hN hV (by rw [uH_ne (by omega)]; exact hg) (by rw [uH_ne (by omega)]; exact hSy) (by rw [uH_ne (by omega)]; exact hE) e1 hEe (by rw [uH_at]) q1 q3 (fdn (rF Ro) 80) (fun i hi => (q5 i hi).1) (fun i hi => fdn_lt h1 80 i hi) 82 0 Fi1 true false _ (by omega) (by omega) (by omega) hFI (fun e => by cases e) (fun e => by cases e) (fun _ => by omega) C4 (by rw [lk_s C3, lk_s C2, lk_s q6]; exact q7) (by rw [lk_s C3, lk_s C2, lk_s q6]; rfl) (by rw [lk_s C3, lk_s C2]; rfl) (by rw [lk_s C3]; rfl)
  refine ⟨Ro', Fi2, b, q1, q3, fun i hi => (q5 i hi).1, x1, x2, x3, Xc.of rfl (by simp [lg_sl, Value.category]) ?_ ?_⟩
  · have k3 := q8 _ (Gx.run 20 Cs.tt (fun C _ => ?_) x4)
    · have e0 : aH w N Ro Fi = hp w N := by
        unfold aH
        rw [uH_self hR, uH_self hF]
      rw [e0] at k3
      generalize lv_args 0 [.ref 19] = lv at hc l0 k3
      refine Gx.run 20 Cs.tt (fun C _ => ?_) k3
      simp (disch := first | (refine c1_id ?_; assumption) | (refine c1_st rfl ?_; repeat (first | assumption | refine c1_st rfl ?_)) | omega) [nx_l, nx_r, nx_n, x_st, x_push, x_bin, x_div, x_un, x_dup, x_pop, x_dup2, x_goto, x_ifeq, x_ifne, x_iflt, x_ifge, x_ifgt, x_ifle, x_iceq, x_icne, x_iclt, x_icge, x_icgt, x_icle, x_ifnull, x_ifnonnull, x_ldi, x_lda, x_sti, x_sta, x_iinc, x_gf, x_pf, x_ald, x_ast, x_aln, x_len, x_cl_, x_cv, x_cs, x_rc, x_r0, x_isT, x_oi, x_rv, x_ri, x_ra, Value.category, t48_0, t48_1, t48_2, t48_3, t48_4, t48_7, t48_10, t48_11, t48_14, t48_15, t48_16, t48_17, t48_20, t48_21, t48_22, t48_25, t48_26, t48_27, t48_28, t48_31, t48_34, t48_35, t48_36, t48_37, t48_38, t48_39, t48_40, t48_41, t48_43, t48_46, t48_47, t48_50, t48_51, t48_54, t48_55, t48_56, t48_57, t48_58, t48_59, t48_62, t48_63, t48_64, t48_66, t48_68, t48_71, t48_72, t48_75, t48_77, t48_78, t48_80, t48_83, t48_84, t48_87, t48_89, t48_90, t48_93, t48_94, t48_97, t48_99, t48_100, t48_102, t48_105, t48_106, t48_107, t48_110, t48_111, t48_114, t48_116, t48_117, t48_120, t48_121, t48_124, t48_125, t48_126, t48_127, t48_130, t48_131, t48_134, t48_136, t48_137, t48_140, t48_141, t48_144, t48_145, t48_146, t48_149, t48_152, t48_155, t48_158, t48_159, lk_s, hp_get, hp_set, uH_at, uH_ne, uH_upd, uH_swap, iZ_add, iZ_sub, iZ_mul, iZ_neg, iZ_lt, iZ_le, iZ_eq, iZ_div, iZ_of, ix_Z, gZ_map, gZ_mapI, gZ_map', le_0, le_s, sZ_map, sZ_len, bZ_0, bZ_inj, bZ_t, bZ_f, nr_i, nr_0, nr_1, nr_b, ft_i, ft_b, ft_0, ft_1, zl_0, zl_1, zl_80, l0, -List.filter_filter, -List.getElem?_map, -List.getD_eq_getElem?_getD]
    · simp (disch := first | (refine c1_id ?_; assumption) | (refine c1_st rfl ?_; repeat (first | assumption | refine c1_st rfl ?_)) | omega) [nx_l, nx_r, nx_n, x_st, x_push, x_bin, x_div, x_un, x_dup, x_pop, x_dup2, x_goto, x_ifeq, x_ifne, x_iflt, x_ifge, x_ifgt, x_ifle, x_iceq, x_icne, x_iclt, x_icge, x_icgt, x_icle, x_ifnull, x_ifnonnull, x_ldi, x_lda, x_sti, x_sta, x_iinc, x_gf, x_pf, x_ald, x_ast, x_aln, x_len, x_cl_, x_cv, x_cs, x_rc, x_r0, x_isT, x_oi, x_rv, x_ri, x_ra, Value.category, t48_0, t48_1, t48_2, t48_3, t48_4, t48_7, t48_10, t48_11, t48_14, t48_15, t48_16, t48_17, t48_20, t48_21, t48_22, t48_25, t48_26, t48_27, t48_28, t48_31, t48_34, t48_35, t48_36, t48_37, t48_38, t48_39, t48_40, t48_41, t48_43, t48_46, t48_47, t48_50, t48_51, t48_54, t48_55, t48_56, t48_57, t48_58, t48_59, t48_62, t48_63, t48_64, t48_66, t48_68, t48_71, t48_72, t48_75, t48_77, t48_78, t48_80, t48_83, t48_84, t48_87, t48_89, t48_90, t48_93, t48_94, t48_97, t48_99, t48_100, t48_102, t48_105, t48_106, t48_107, t48_110, t48_111, t48_114, t48_116, t48_117, t48_120, t48_121, t48_124, t48_125, t48_126, t48_127, t48_130, t48_131, t48_134, t48_136, t48_137, t48_140, t48_141, t48_144, t48_145, t48_146, t48_149, t48_152, t48_155, t48_158, t48_159, lk_s, hp_get, hp_set, uH_at, uH_ne, uH_upd, uH_swap, iZ_add, iZ_sub, iZ_mul, iZ_neg, iZ_lt, iZ_le, iZ_eq, iZ_div, iZ_of, ix_Z, gZ_map, gZ_mapI, gZ_map', le_0, le_s, sZ_map, sZ_len, bZ_0, bZ_inj, bZ_t, bZ_f, nr_i, nr_0, nr_1, nr_b, ft_i, ft_b, ft_0, ft_1, zl_0, zl_1, zl_80, aH, q7, -List.filter_filter, -List.getElem?_map, -List.getD_eq_getElem?_getD]
  · have x1l := x1.1
    unfold aH
    refine hp_le (Nat.le_refl _) (fun j _ => by (simp only [uH]; repeat' split) <;> simp_all [x_c1, sZ_len, cpl_len, mF_len])
end AF
