/-! the class's unify, whole -/

theorem UJ.init {P : List Int} {x y : Nat} {R : Nat → Nat} (hx : x < P.length) (hy : y < P.length) (h1 : ∀ i, i < P.length → R i < P.length) (hn : ∀ i, i < P.length → ¬ pz P i < 99 → R i = i) (hv : ∀ i, i < P.length → pz P i < 99 → pz P (R i) = pz P i ∧ R (R i) = R i) (hs : ∀ i j, i < P.length → j < P.length → pz P i < 99 → pz P i = pz P j → R i = R j) : UJ P x y R [(x, y)] := by
  refine ⟨h1, ⟨fun i => if R i = i then 0 else 1, fun i hi hr => ?_⟩, fun φ hφ i j hi hj v e => ?_, fun i hi hr v => absurd (hn i hi v) hr, fun φ hφ => hφ.2 (x, y) List.mem_cons_self, fun θ hθ e => ⟨fun i hi => ?_, fun q hq => ?_⟩, fun q hq => ?_⟩
  · have hvi : pz P i < 99 := Classical.byContradiction (fun z => hr (hn i hi z))
    dsimp only
    rw [if_pos (hv i hi hvi).2, if_neg hr]
    omega
  · rw [← hφ.1 i hi, ← hφ.1 j hj, hs i j hi hj v e]
  · dsimp only
    by_cases v : pz P i < 99
    · rw [val_v θ hi v, val_v θ (h1 i hi) (by rw [(hv i hi v).1]; exact v), (hv i hi v).1]
    · rw [hn i hi v]
  · rw [List.mem_singleton] at hq
    subst hq
    exact e
  · rw [List.mem_singleton] at hq
    subst hq
    exact ⟨hx, hy⟩
/-- what joined places with a rank have -/
def GM (P : List Int) (fd rk : Nat → Nat) (K : Nat) : Prop := (∀ i, i < P.length → fd i < P.length) ∧ (∀ i, i < P.length → fd (fd i) = fd i) ∧ (∀ i j, i < P.length → j < P.length → pz P i < 99 → pz P i = pz P j → fd i = fd j) ∧ (∀ i, i < P.length → ¬ pz P i < 99 → pz P (fd i) = pz P i ∧ (args P i).map fd = (args P (fd i)).map fd) ∧ (∀ i, i < P.length → ¬ pz P (fd i) < 99 → ∀ x ∈ args P (fd i), rk (fd x) < rk (fd i)) ∧ ∀ i, i < P.length → rk (fd i) < K
section GA
variable {w : Nat → xC} {N : Nat} {l wt : Int} {Sy Ee Ro Fi Os Ot P : List Int}
def fH (w : Nat → xC) (N : Nat) (l wt : Int) (Ro Fi Os Ot : List Int) : xH := hp (uH (uH (uH (uH (uH w 16 (gO l wt)) 19 (cI 0 Ro)) 21 (cI 1 Fi)) 22 (cI 0 Os)) 23 (cI 0 Ot)) N
theorem m44 (d : Nat) (hN : 53 ≤ N) (hV : GV P Sy l) (hg : w 16 = gO l wt) (hSy : w 17 = cI 0 Sy) (hE : w 18 = cI 0 Ee) (e1 : Ee.length = 80) (hEe : ∀ i, 0 ≤ i → i < l → gZ Ee i = i + (tm P i.toNat).length) (hR : w 19 = cI 0 Ro) (e2 : Ro.length = 80) (hr : ∀ i, 0 ≤ i → i < 80 → 0 ≤ gZ Ro i ∧ gZ Ro i < 80) (hF : w 21 = cI 1 Fi) (e3 : Fi.length = 80) (hf : ∀ i, gZ Fi i = 0 ∨ gZ Fi i = 1) (hO : w 22 = cI 0 Os) (hT : w 23 = cI 0 Ot) (s1 : Os.length = 241) (s2 : Ot.length = 241) (x y : Nat) (hJ : UJ P x y (rF Ro) [(x, y)]) :
    ∃ (Ro' Fi' Os' Ot' : List Int) (wt' : Int) (b : Bool), Ro'.length = 80 ∧ Fi'.length = 80 ∧ Os'.length = 241 ∧ Ot'.length = 241 ∧ (∀ i, gZ Fi' i = 0 ∨ gZ Fi' i = 1) ∧ Xc (d + 4) 44 [.ref 19, .int (iZ x), .int (iZ y)] (hp w N) (some (.int (iZ (bZ b))), fH w N l wt' Ro' Fi' Os' Ot') ∧
      (b = true → (∀ i, 0 ≤ i → i < 80 → 0 ≤ gZ Ro' i ∧ gZ Ro' i < 80) ∧ ∃ (fd rk : Nat → Nat) (K : Nat), GM P fd rk K ∧ (∀ i : Nat, i < P.length → gZ Ro' i = fd i) ∧ Mg (sg P fd K) (tm P x) (tm P y)) ∧ (b = false → ∀ θ, Tσ θ → sub θ (tm P x) ≠ sub θ (tm P y)) := by
  have hV' := hV
  obtain ⟨v1, v2, v3, v4, v5, v6⟩ := hV'
  have hxy := hJ.2.2.2.2.2.2 (x, y) List.mem_cons_self
  dsimp only at hxy
  have o1 : gZ (sZ Os 0 x) ((0 : Nat) : Int) = x := by rw [gZ_sZ (by omega) (by omega) (by omega), if_pos (by omega)]
  have o2 : gZ (sZ Ot 0 y) ((0 : Nat) : Int) = y := by rw [gZ_sZ (by omega) (by omega) (by omega), if_pos (by omega)]
  have hJ1 : UJ P x y (rF Ro) (wps (sZ Os 0 x) (sZ Ot 0 y) 1) := by
    show UJ P x y (rF Ro) [((gZ (sZ Os 0 x) ((0 : Nat) : Int)).toNat, (gZ (sZ Ot 0 y) ((0 : Nat) : Int)).toNat)]
    rw [o1, o2, Int.toNat_natCast, Int.toNat_natCast]
    exact hJ
  have hrc := rc_le (rF Ro) P.length
  have hc : c1 (lv_args 0 [.ref 19, .int (iZ x), .int (iZ y)]) := by simp [c1, lv_args, Value.category]
  have l0 : x_lk (lv_args 0 [.ref 19, .int (iZ x), .int (iZ y)]) 0 = some (.ref 19) := rfl
  have l1 : x_lk (lv_args 0 [.ref 19, .int (iZ x), .int (iZ y)]) 1 = some (.int (iZ x)) := rfl
  have l2 : x_lk (lv_args 0 [.ref 19, .int (iZ x), .int (iZ y)]) 2 = some (.int (iZ y)) := rfl
  have C1 := c1_st (i := 3) (v := .int (iZ 0)) rfl hc
  have mj := m45 (d + 2) (w := uH w 16 (gO l 0)) (N := N) (l := l) (wt := 0) (Os := Os) (Ot := Ot) hN (by rw [uH_at]) (by rw [uH_ne (by omega)]; exact hO) (by rw [uH_ne (by omega)]; exact hT) s1 s2 (by omega) v2 (by omega) (by omega) x y (by omega) (by omega) (by omega) (by omega)
  have eg : gH w N l 1 Ro (sZ Os 0 x) (sZ Ot 0 y) = hp (uH (uH (uH w 16 (gO l 1)) 22 (cI 0 (sZ Os 0 x))) 23 (cI 0 (sZ Ot 0 y))) N := by
    unfold gH
    rw [uH_self (a := 19) (c := cI 0 Ro) (by rw [uH_ne (by omega)]; exact hR)]
  have first : ∀ res, x_le (hp w N) res.2 → Gx q_k44 (d + 3) 13 ((3, .int (iZ 0)) :: List.filter (x_keep 3) (lv_args 0 [.ref 19, .int (iZ x), .int (iZ y)]), [], gH w N l 1 Ro (sZ Os 0 x) (sZ Ot 0 y)) res → Xc (d + 4) 44 [.ref 19, .int (iZ x), .int (iZ y)] (hp w N) res := fun res hle k3 => by
    refine Xc.of rfl (by simp [lg_sl, Value.category]) ?_ hle
    rw [eg] at k3
    generalize lv_args 0 [.ref 19, .int (iZ x), .int (iZ y)] = lv at hc l0 l1 l2 k3
    refine Gx.run 40 mj (fun C mj => ?_) k3
    rw [uH_upd, Int.zero_add] at mj
    simp (disch := first | (refine c1_id ?_; assumption) | (refine c1_st rfl ?_; repeat (first | assumption | refine c1_st rfl ?_)) | omega) [nx_l, nx_r, nx_n, x_st, x_push, x_bin, x_div, x_un, x_dup, x_pop, x_dup2, x_goto, x_ifeq, x_ifne, x_iflt, x_ifge, x_ifgt, x_ifle, x_iceq, x_icne, x_iclt, x_icge, x_icgt, x_icle, x_ifnull, x_ifnonnull, x_ldi, x_lda, x_sti, x_sta, x_iinc, x_gf, x_pf, x_ald, x_ast, x_aln, x_len, x_cl_, x_cv, x_cs, x_rc, x_r0, x_isT, x_oi, x_rv, x_ri, x_ra, Value.category, t44_0, t44_1, t44_2, t44_5, t44_6, t44_7, t44_8, t44_11, t44_12, t44_13, t44_14, t44_17, t44_20, t44_21, t44_24, t44_27, t44_28, t44_29, t44_32, t44_33, t44_34, t44_37, t44_38, t44_39, t44_42, t44_43, t44_46, t44_47, t44_50, t44_52, t44_53, t44_54, t44_57, t44_58, t44_61, t44_62, t44_65, t44_67, t44_69, t44_71, t44_74, t44_77, t44_78, t44_81, t44_83, t44_84, t44_87, t44_90, t44_91, t44_94, t44_96, t44_98, t44_99, t44_102, t44_103, t44_106, t44_108, t44_109, t44_112, t44_115, t44_116, t44_119, t44_121, t44_123, t44_124, t44_127, t44_128, t44_131, t44_133, t44_134, t44_135, t44_138, t44_140, t44_141, t44_144, t44_145, t44_146, t44_147, t44_150, t44_152, t44_154, t44_155, t44_156, t44_158, t44_160, t44_163, t44_166, t44_169, t44_170, t44_173, lk_s, hp_get, hp_set, uH_at, uH_ne, uH_upd, uH_swap, iZ_add, iZ_sub, iZ_mul, iZ_neg, iZ_lt, iZ_le, iZ_eq, iZ_div, iZ_of, ix_Z, gZ_map, gZ_mapI, gZ_map', le_0, le_s, sZ_map, sZ_len, bZ_0, bZ_inj, bZ_t, bZ_f, nr_i, nr_0, nr_1, nr_b, ft_i, ft_b, ft_0, ft_1, zl_0, zl_1, zl_241, l0, l1, l2, hg, mj, gF_len, gg_0, gg_1, gg_2, gg_3, gg_4, gg_5, gg_6, gg_7, gg_8, gs_7, gs_8, -List.filter_filter, -List.getElem?_map, -List.getD_eq_getElem?_getD]
  have hmain := l44 (w := w) (d + 1) hN hV (by omega) hSy hE e1 hEe x y _ 1 Ro (sZ Os 0 x) (sZ Ot 0 y) 0 1 _ e2 (by rw [sZ_len]; exact s1) (by rw [sZ_len]; exact s2) hr (fun i hi => by
    obtain rfl : i = 0 := by omega
    rw [o1, o2]
    omega) hJ1 rfl (by omega) (by omega) (Nat.le_refl _) C1 (by rw [lk_s hc]; exact l0) (by rw [lk_s hc]; rfl)
  rcases hmain with ⟨Ro', Os', Ot', wt', z1, z2, z3, z4, z5⟩ | ⟨Ro', Os', Ot', lv', z1, z2, z3, z4, z5, z6, z7, z8⟩
  · have ef : gH w N l wt' Ro' Os' Ot' = fH w N l wt' Ro' Fi Os' Ot' := by
      unfold gH fH
      rw [uH_self (w := uH (uH w 16 (gO l wt')) 19 (cI 0 Ro')) (a := 21) (c := cI 1 Fi) (by rw [uH_ne (by omega), uH_ne (by omega)]; exact hF)]
    rw [ef] at z4
    refine ⟨Ro', Fi, Os', Ot', wt', false, z1, e3, z2, z3, hf, first _ ?_ z4, (fun e => by cases e), fun _ => z5⟩
    unfold fH
    refine hp_le (Nat.le_refl _) (fun j _ => by (simp only [uH]; repeat' split) <;> simp_all [x_c1, sZ_len, gF_len])
  · have z5' := z5
    obtain ⟨f1, f2, f3, f4, f5, f6⟩ := z5'.fin (k := 80) (by omega)
    obtain ⟨j1, ⟨dm, j2⟩, -⟩ := z5
    obtain ⟨Ro2, Fi2, b, y1, y2, y3, y4, y5, y6, y7⟩ := m48 d (w := gW w l 0 Ro' Os' Ot') (N := N) (l := l) (wt := 0) (Sy := Sy) (Ee := Ee) (Ro := Ro') (P := P) hN hV (gW_16 _ _ _ _ _ _) (by rw [gW_o _ _ _ _ _ (by omega)]; exact hSy) (by rw [gW_o _ _ _ _ _ (by omega)]; exact hE) e1 hEe (gW_19 _ _ _ _ _ _) z1 z4 (Fi := Fi) (by rw [gW_o _ _ _ _ _ (by omega)]; exact hF) e3 hf j1 j2
    have y8 := y4.1
    refine ⟨Ro2, Fi2, Os', Ot', 0, b, y1, y8, z2, z3, y4.2.1, first _ ?_ (z8 _ (Gx.fin 20 y7 (fun C mm => ?_))), fun e => ⟨y2, ?_⟩, fun e => ?_⟩
    · unfold fH
      refine hp_le (Nat.le_refl _) (fun j _ => by (simp only [uH]; repeat' split) <;> simp_all [x_c1, sZ_len, gF_len])
    · unfold gW aH at mm
      cases b <;> simp (disch := first | (refine c1_id ?_; assumption) | (refine c1_st rfl ?_; repeat (first | assumption | refine c1_st rfl ?_)) | omega) [nx_l, nx_r, nx_n, x_st, x_push, x_bin, x_div, x_un, x_dup, x_pop, x_dup2, x_goto, x_ifeq, x_ifne, x_iflt, x_ifge, x_ifgt, x_ifle, x_iceq, x_icne, x_iclt, x_icge, x_icgt, x_icle, x_ifnull, x_ifnonnull, x_ldi, x_lda, x_sti, x_sta, x_iinc, x_gf, x_pf, x_ald, x_ast, x_aln, x_len, x_cl_, x_cv, x_cs, x_rc, x_r0, x_isT, x_oi, x_rv, x_ri, x_ra, Value.category, t44_0, t44_1, t44_2, t44_5, t44_6, t44_7, t44_8, t44_11, t44_12, t44_13, t44_14, t44_17, t44_20, t44_21, t44_24, t44_27, t44_28, t44_29, t44_32, t44_33, t44_34, t44_37, t44_38, t44_39, t44_42, t44_43, t44_46, t44_47, t44_50, t44_52, t44_53, t44_54, t44_57, t44_58, t44_61, t44_62, t44_65, t44_67, t44_69, t44_71, t44_74, t44_77, t44_78, t44_81, t44_83, t44_84, t44_87, t44_90, t44_91, t44_94, t44_96, t44_98, t44_99, t44_102, t44_103, t44_106, t44_108, t44_109, t44_112, t44_115, t44_116, t44_119, t44_121, t44_123, t44_124, t44_127, t44_128, t44_131, t44_133, t44_134, t44_135, t44_138, t44_140, t44_141, t44_144, t44_145, t44_146, t44_147, t44_150, t44_152, t44_154, t44_155, t44_156, t44_158, t44_160, t44_163, t44_166, t44_169, t44_170, t44_173, lk_s, hp_get, hp_set, uH_at, uH_ne, uH_upd, uH_swap, iZ_add, iZ_sub, iZ_mul, iZ_neg, iZ_lt, iZ_le, iZ_eq, iZ_div, iZ_of, ix_Z, gZ_map, gZ_mapI, gZ_map', le_0, le_s, sZ_map, sZ_len, bZ_0, bZ_inj, bZ_t, bZ_f, nr_i, nr_0, nr_1, nr_b, ft_i, ft_b, ft_0, ft_1, zl_0, zl_1, zl_241, gH, fH, z7, mm, gF_len, gg_0, gg_1, gg_2, gg_3, gg_4, gg_5, gg_6, gg_7, gg_8, gs_7, gs_8, -List.filter_filter, -List.getElem?_map, -List.getD_eq_getElem?_getD]
    · obtain ⟨rk, B, hrk⟩ := y4.2.2.2
      have hGM : GM P (fdn (rF Ro') 80) rk B := ⟨f1, f2, f3, f4, fun i hi _ z hz => ((hrk _ (f1 i hi) (y5 e _ (f1 i hi) (f2 i hi))).2 z hz).2, fun i hi => (hrk _ (f1 i hi) (y5 e _ (f1 i hi) (f2 i hi))).1⟩
      exact ⟨fdn (rF Ro') 80, rk, B, hGM, y3, sg_Mg v6 hGM.1 hGM.2.1 hGM.2.2.1 hGM.2.2.2.1 hGM.2.2.2.2.1 hGM.2.2.2.2.2 hxy.1 hxy.2 (f5 hxy.1 hxy.2) f6⟩
    · intro θ hθ ev
      exact Stk_no v6 f1 f2 y4.2.1 (y6 e) (f6 θ hθ ev)
end GA
