/-! the class: a term is copied, to its end -/

def ksC : List Nat := [12, 13, 16, 22]
/-- what the graph holds while terms are copied -/
def GB (w : Nat → xC) (P Sy Ee Ro : List Int) (l : Int) (fd rk : Nat → Nat) (K : Nat) : Prop := w 17 = cI 0 Sy ∧ w 18 = cI 0 Ee ∧ Ee.length = 80 ∧ (∀ i, 0 ≤ i → i < l → gZ Ee i = i + (tm P i.toNat).length) ∧ w 19 = cI 0 Ro ∧ Ro.length = 80 ∧ (∀ i : Nat, i < P.length → gZ Ro i = fd i) ∧ GV P Sy l ∧ GM P fd rk K ∧ (∀ i : Nat, i < P.length → ¬ pz P i < 99 → gZ Sy i = vc (pz P i)) ∧ ∀ i : Nat, i < P.length → sgV (pz P i)
theorem GB.mv {w w' : Nat → xC} {P Sy Ee Ro : List Int} {l : Int} {fd rk : Nat → Nat} {K : Nat} (h : GB w P Sy Ee Ro l fd rk K) (f : Fr ksC w w') : GB w' P Sy Ee Ro l fd rk K := by
  obtain ⟨h1, h2, h3, h4, h5, h6⟩ := h
  exact ⟨(f 17 (by decide)).trans h1, (f 18 (by decide)).trans h2, h3, h4, (f 19 (by decide)).trans h5, h6⟩
section CU
variable {N : Nat} {l : Int} {P Sy Ee Ro E B : List Int} {fd rk : Nat → Nat} {K : Nat} {c o : Int}
def rW (P : List Int) (fd : Nat → Nat) (K : Nat) (W : List Nat) : List Int := (W.map (ex P fd K)).flatten
theorem fo.put {w : Nat → xC} {S : List Int} {ln : Int} (hf : fo w 12 S E B c ln o) (v : Int) : fo (uH (uH w 12 (fC 12 c (ln + 1) o)) 13 (cI 0 (sZ S ln v))) 12 (sZ S ln v) E B c (ln + 1) o := by
  obtain ⟨fa, fs, fe, fg⟩ := hf
  refine ⟨?_, ?_, ?_, ?_⟩
  · rw [uH_ne (by decide), uH_at]
    rfl
  · exact uH_at _ _ _
  · rw [uH_ne (by decide), uH_ne (by decide)]
    exact fe
  · rw [uH_ne (by decide), uH_ne (by decide)]
    exact fg
set_option maxHeartbeats 2000000 in
theorem l51 (d : Nat) (hN : 53 ≤ N) (o0 : 0 ≤ o) (o9 : o ≤ 40) (lE : E.length < 10000) (lB : B.length < 10000) : ∀ (n : Nat) (W : List Nat) (k ln : Int) (S Os : List Int) (w : Nat → xC) (lv : xL), (rW P fd K W).length = n → (∀ x ∈ W, x < P.length) → stW Os W → (W.length : Int) ≤ 1 + 2 * k → 0 ≤ k → k ≤ ln - o → ln - o ≤ 40 → w 16 = gO l W.length → w 22 = cI 0 Os → Os.length = 241 → fo w 12 S E B c ln o → S.length = 80 → GB w P Sy Ee Ro l fd rk K → c1 lv → x_lk lv 0 = some (.ref 19) → x_lk lv 2 = some (.ref 15) → x_lk lv 3 = some (.int (iZ k)) →
    (ln - o + n ≤ 40 → ∃ (w' : Nat → xC) (S' Os' : List Int), Fr ksC w w' ∧ fo w' 12 S' E B c (ln + n) o ∧ S'.length = 80 ∧ (∀ j, 0 ≤ j → j < ln → gZ S' j = gZ S j) ∧ (∀ j : Nat, j < n → gZ S' (ln + j) = vc (fV P fd ((rW P fd K W).getD j 0))) ∧ w' 16 = gO l 0 ∧ w' 22 = cI 0 Os' ∧ Os'.length = 241 ∧ Gx q_k51 (d + 1) 14 (lv, [], hp w N) (some (.int (iZ 1)), hp w' N)) ∧
    (40 < ln - o + n → ∃ (w' : Nat → xC) (S' Os' : List Int) (ln' wt' : Int), Fr ksC w w' ∧ fo w' 12 S' E B c ln' o ∧ S'.length = 80 ∧ w' 16 = gO l wt' ∧ w' 22 = cI 0 Os' ∧ Os'.length = 241 ∧ ln ≤ ln' ∧ ln' ≤ 80 ∧ (∀ j, 0 ≤ j → j < ln → gZ S' j = gZ S j) ∧ Gx q_k51 (d + 1) 14 (lv, [], hp w N) (some (.int (iZ 0)), hp w' N)) := by
  intro n
  induction n with
  | zero =>
    intro W k ln S Os w lv hn hx hst hW9 k0 kl ln9 hg hO nO hf nS hB hc l0 l2 l3
    obtain ⟨g1, g2, g3, g4, g5, g6, g7, hV, hM, g10, g11⟩ := hB
    have hWn : W = [] := by
      cases W with
      | nil => rfl
      | cons x W =>
        exfalso
        have hT := ex_Ts (fd := fd) (rk := rk) (K := K) hV.2.2.2.2.2 hM.1 hM.2.2.2.2.1 hM.2.2.2.2.2 (rk (fd x) + 1) x (by omega) (hx x List.mem_cons_self)
        have := Ts_len hT
        unfold rW at hn
        rw [List.map_cons, List.flatten_cons, List.length_append] at hn
        omega
    subst hWn
    refine ⟨fun _ => ⟨w, S, Os, Fr.rf _ _, by rw [show ln + ((0 : Nat) : Int) = ln by omega]; exact hf, nS, fun _ _ _ => rfl, fun j hj => absurd hj (Nat.not_lt_zero _), hg, hO, nO, ?_⟩, fun z => by omega⟩
    have hg' : w 16 = gO l 0 := hg
    have b1 : ¬ 40 < k := by omega
    refine Gx.fin 40 Cs.tt (fun C _ => ?_)
    simp (disch := first | (refine c1_id ?_; assumption) | (refine c1_st rfl ?_; repeat (first | assumption | refine c1_st rfl ?_)) | omega) [nx_l, nx_r, nx_n, x_st, x_push, x_bin, x_div, x_un, x_dup, x_pop, x_dup2, x_goto, x_ifeq, x_ifne, x_iflt, x_ifge, x_ifgt, x_ifle, x_iceq, x_icne, x_iclt, x_icge, x_icgt, x_icle, x_ifnull, x_ifnonnull, x_ldi, x_lda, x_sti, x_sta, x_iinc, x_gf, x_pf, x_ald, x_ast, x_aln, x_len, x_cl_, x_cv, x_cs, x_rc, x_r0, x_isT, x_oi, x_rv, x_ri, x_ra, Value.category, t51_0, t51_1, t51_4, t51_5, t51_6, t51_7, t51_8, t51_9, t51_12, t51_13, t51_14, t51_15, t51_17, t51_20, t51_21, t51_24, t51_27, t51_28, t51_29, t51_32, t51_33, t51_34, t51_37, t51_38, t51_41, t51_42, t51_45, t51_46, t51_49, t51_50, t51_51, t51_53, t51_54, t51_57, t51_59, t51_60, t51_63, t51_65, t51_66, t51_69, t51_71, t51_72, t51_75, t51_78, t51_80, t51_83, t51_86, t51_87, t51_90, t51_92, t51_93, t51_95, t51_96, t51_98, t51_101, t51_104, t51_105, t51_108, t51_110, t51_111, t51_114, t51_117, t51_118, t51_119, t51_121, t51_122, t51_123, t51_125, t51_127, t51_128, t51_129, t51_131, t51_133, t51_136, t51_138, t51_139, t51_142, t51_145, t51_146, t51_149, t51_150, t51_153, t51_155, t51_156, t51_158, t51_159, t51_160, t51_163, t51_165, t51_166, t51_168, t51_171, t51_174, t51_175, t51_176, t51_179, t51_181, t51_182, t51_185, t51_188, t51_191, t51_192, t51_195, t51_198, t51_199, t51_202, t51_203, lk_s, hp_get, hp_set, uH_at, uH_ne, uH_upd, uH_swap, iZ_add, iZ_sub, iZ_mul, iZ_neg, iZ_lt, iZ_le, iZ_eq, iZ_div, iZ_of, ix_Z, gZ_map, gZ_mapI, gZ_map', le_0, le_s, sZ_map, sZ_len, bZ_0, bZ_inj, bZ_t, bZ_f, nr_i, nr_0, nr_1, nr_b, ft_i, ft_b, ft_0, ft_1, zl_0, zl_1, zl_40, zl_241, l0, l2, l3, hg', b1, gO, gF, -List.filter_filter, -List.getElem?_map, -List.getD_eq_getElem?_getD]
  | succ n ih =>
    intro W k ln S Os w lv hn hx hst hW9 k0 kl ln9 hg hO nO hf nS hB hc l0 l2 l3
    have hB' := hB
    obtain ⟨g1, g2, g3, g4, g5, g6, g7, hV, hM, g10, g11⟩ := hB'
    obtain ⟨v1, v2, v3, v4, v5, v6⟩ := hV
    cases W with
    | nil => cases hn
    | cons x W =>
      obtain ⟨hs1, hs2⟩ := hst
      have hxP := hx x List.mem_cons_self
      have hr := hM.1 x hxP
      obtain ⟨nd, hnd⟩ : ∃ nd, nd = fd x := ⟨_, rfl⟩
      rw [← hnd] at hr
      obtain ⟨z1, z2, z3⟩ := v4 nd hr
      have z4 := vs_lo z1
      have z5 := vs_hi z1
      have hro := g7 x hxP
      rw [← hnd] at hro
      have har := ar_le (pz P nd)
      have wl : (((x :: W).length : Nat) : Int) = (W.length : Int) + 1 := by simp
      rw [wl] at hg hW9
      -- the sign that is put
      obtain ⟨sy, hsy⟩ : ∃ sy : Int, sy = gZ Sy nd := ⟨_, rfl⟩
      rw [← hsy] at z1 z2 z3 z4 z5
      obtain ⟨tr, htr⟩ : ∃ tr : Int, tr = (ar (pz P nd) : Int) := ⟨_, rfl⟩
      have tr0 : 0 ≤ tr := by omega
      have tr3 : tr ≤ 3 := by omega
      have etr : sy % 4 = tr := by omega
      have ehd : ∃ rest, rW P fd K (x :: W) = pz P nd :: rest ∧ rest = rW P fd K (args P nd ++ W) ∧ (pz P nd < 99 → ar (pz P nd) = 0) := by
        refine ⟨rW P fd K (args P nd ++ W), ?_, rfl, fun z => ar_v z⟩
        unfold rW
        rw [List.map_cons, List.flatten_cons, List.map_append, List.flatten_append]
        by_cases hv : pz P nd < 99
        · rw [ex_v (K := K) (rk := rk) hM.2.2.2.2.2 hxP (by rw [← hnd]; exact hv), ← hnd]
          have ea : args P nd = [] := by
            unfold args
            rw [ar_v hv]
            rfl
          rw [ea]
          rfl
        · rw [ex_eq (K := K) (rk := rk) v6 hM.1 hM.2.2.2.2.1 hM.2.2.2.2.2 hxP (by rw [← hnd]; exact hv), ← hnd, List.cons_append]
      obtain ⟨rest, er1, er2, er3⟩ := ehd
      have hn' : rest.length = n := by
        rw [er1, List.length_cons] at hn
        omega
      obtain ⟨sym, hsym⟩ : ∃ sym : Int, sym = vc (fV P fd (pz P nd)) := ⟨_, rfl⟩
      have esym : sym = if 128 ≤ sy then 128 + 4 * (nd : Int) else sy := by
        by_cases hv : pz P nd < 99
        · rw [if_pos (z3.mp hv), hsym]
          have hidx : fd (P.idxOf (pz P nd)) = nd := by
            have hm : pz P nd ∈ P := pz_mem hr
            have hi := List.idxOf_lt_length_iff.mpr hm
            have hpz : pz P (P.idxOf (pz P nd)) = pz P nd := by
              show P.getD (P.idxOf (pz P nd)) 0 = pz P nd
              rw [List.getD_eq_getElem?_getD, List.getElem?_eq_getElem hi]
              exact List.getElem_idxOf hi
            have := hM.2.2.1 (P.idxOf (pz P nd)) nd hi hr (by rw [hpz]; exact hv) hpz
            rw [this, hnd]
            exact hM.2.1 x hxP
          unfold fV
          rw [if_pos hv, hidx]
          unfold vc
          rw [if_pos (by omega)]
        · rw [if_neg (fun z => hv (z3.mpr z)), hsym, hsy, g10 nd hr hv]
          unfold fV
          rw [if_neg hv]
      -- to the put
      have X1 := m5 d (uH w 16 (gO l W.length)) N sy (by omega) (by omega)
      rw [etr] at X1
      have X2 := m2 d (uH w 16 (gO l W.length)) N sy (by omega) (by omega)
      have X3 := m1 d (uH w 16 (gO l W.length)) N (nd : Int)
      obtain ⟨w1, hw1⟩ : ∃ w1, w1 = uH w 16 (gO l W.length) := ⟨_, rfl⟩
      rw [← hw1] at X1 X2 X3
      have hg1 : w1 16 = gO l W.length := by rw [hw1, uH_at]
      have hf1 : fo w1 12 S E B c ln o := by
        obtain ⟨fa, fs, fe, fg⟩ := hf
        rw [hw1]
        exact ⟨by rw [uH_ne (by decide)]; exact fa, by rw [uH_ne (by decide)]; exact fs, by rw [uH_ne (by decide)]; exact fe, by rw [uH_ne (by decide)]; exact fg⟩
      have F1 : Fr ksC w w1 := by rw [hw1]; exact (Fr.rf _ _).up (by decide)
      have hO1 : w1 22 = cI 0 Os := by rw [hw1, uH_ne (by decide)]; exact hO
      have C4 := c1_st (i := 4) (v := .int (iZ (nd : Int))) rfl hc
      have C5 := c1_st (i := 5) (v := .int (iZ tr)) rfl C4
      have C6 := c1_st (i := 6) (v := .int (iZ sym)) rfl C5
      have k9 : ¬ 40 < k := by omega
      have w9 : (W.length : Int) ≤ 80 := by omega
      have g95 : ∀ res, Gx q_k51 (d + 1) 95 ((6, .int (iZ sym)) :: List.filter (x_keep 6) ((5, .int (iZ tr)) :: List.filter (x_keep 5) ((4, .int (iZ (nd : Int))) :: lv.filter (x_keep 4))), [], hp w1 N) res → Gx q_k51 (d + 1) 14 (lv, [], hp w N) res := fun res hgg => by
        have hsy' : gZ Sy (nd : Int) = sy := hsy.symm
        have nr : (nd : Int) < 80 := by omega
        have xr : (x : Int) < 80 := by omega
        have g1' : w1 17 = cI 0 Sy := (F1 17 (by decide)).trans g1
        have p0 : x_lk ((4, .int (iZ (nd : Int))) :: lv.filter (x_keep 4)) 0 = some (.ref 19) := by rw [lk_s hc]; exact l0
        have p4 : x_lk ((4, .int (iZ (nd : Int))) :: lv.filter (x_keep 4)) 4 = some (.int (iZ (nd : Int))) := by rw [lk_s hc]; rfl
        have g53 : Gx q_k51 (d + 1) 53 ((4, .int (iZ (nd : Int))) :: lv.filter (x_keep 4), [], hp w1 N) res := by
          generalize ((4, .int (iZ (nd : Int))) :: lv.filter (x_keep 4) : xL) = lv4 at C4 C5 p0 p4 hgg
          refine Gx.run 80 ((X1.and X2).and X3) (fun C mm => ?_) hgg
          obtain ⟨⟨mm1, mm2⟩, mm3⟩ := mm
          by_cases hv : 128 ≤ sy
          · rw [decide_eq_true hv, bZ_t] at mm2
            rw [if_pos hv] at esym
            rw [esym]
            simp (disch := first | (refine c1_id ?_; assumption) | (refine c1_st rfl ?_; repeat (first | assumption | refine c1_st rfl ?_)) | omega) [nx_l, nx_r, nx_n, x_st, x_push, x_bin, x_div, x_un, x_dup, x_pop, x_dup2, x_goto, x_ifeq, x_ifne, x_iflt, x_ifge, x_ifgt, x_ifle, x_iceq, x_icne, x_iclt, x_icge, x_icgt, x_icle, x_ifnull, x_ifnonnull, x_ldi, x_lda, x_sti, x_sta, x_iinc, x_gf, x_pf, x_ald, x_ast, x_aln, x_len, x_cl_, x_cv, x_cs, x_rc, x_r0, x_isT, x_oi, x_rv, x_ri, x_ra, Value.category, t51_0, t51_1, t51_4, t51_5, t51_6, t51_7, t51_8, t51_9, t51_12, t51_13, t51_14, t51_15, t51_17, t51_20, t51_21, t51_24, t51_27, t51_28, t51_29, t51_32, t51_33, t51_34, t51_37, t51_38, t51_41, t51_42, t51_45, t51_46, t51_49, t51_50, t51_51, t51_53, t51_54, t51_57, t51_59, t51_60, t51_63, t51_65, t51_66, t51_69, t51_71, t51_72, t51_75, t51_78, t51_80, t51_83, t51_86, t51_87, t51_90, t51_92, t51_93, t51_95, t51_96, t51_98, t51_101, t51_104, t51_105, t51_108, t51_110, t51_111, t51_114, t51_117, t51_118, t51_119, t51_121, t51_122, t51_123, t51_125, t51_127, t51_128, t51_129, t51_131, t51_133, t51_136, t51_138, t51_139, t51_142, t51_145, t51_146, t51_149, t51_150, t51_153, t51_155, t51_156, t51_158, t51_159, t51_160, t51_163, t51_165, t51_166, t51_168, t51_171, t51_174, t51_175, t51_176, t51_179, t51_181, t51_182, t51_185, t51_188, t51_191, t51_192, t51_195, t51_198, t51_199, t51_202, t51_203, lk_s, hp_get, hp_set, uH_at, uH_ne, uH_upd, uH_swap, iZ_add, iZ_sub, iZ_mul, iZ_neg, iZ_lt, iZ_le, iZ_eq, iZ_div, iZ_of, ix_Z, gZ_map, gZ_mapI, gZ_map', le_0, le_s, sZ_map, sZ_len, bZ_0, bZ_inj, bZ_t, bZ_f, nr_i, nr_0, nr_1, nr_b, ft_i, ft_b, ft_0, ft_1, zl_0, zl_1, zl_40, zl_241, p0, p4, hg1, g1', hsy', mm1, mm2, mm3, gO, gF, -List.filter_filter, -List.getElem?_map, -List.getD_eq_getElem?_getD]
          · rw [decide_eq_false hv, bZ_f] at mm2
            rw [if_neg hv] at esym
            rw [esym]
            simp (disch := first | (refine c1_id ?_; assumption) | (refine c1_st rfl ?_; repeat (first | assumption | refine c1_st rfl ?_)) | omega) [nx_l, nx_r, nx_n, x_st, x_push, x_bin, x_div, x_un, x_dup, x_pop, x_dup2, x_goto, x_ifeq, x_ifne, x_iflt, x_ifge, x_ifgt, x_ifle, x_iceq, x_icne, x_iclt, x_icge, x_icgt, x_icle, x_ifnull, x_ifnonnull, x_ldi, x_lda, x_sti, x_sta, x_iinc, x_gf, x_pf, x_ald, x_ast, x_aln, x_len, x_cl_, x_cv, x_cs, x_rc, x_r0, x_isT, x_oi, x_rv, x_ri, x_ra, Value.category, t51_0, t51_1, t51_4, t51_5, t51_6, t51_7, t51_8, t51_9, t51_12, t51_13, t51_14, t51_15, t51_17, t51_20, t51_21, t51_24, t51_27, t51_28, t51_29, t51_32, t51_33, t51_34, t51_37, t51_38, t51_41, t51_42, t51_45, t51_46, t51_49, t51_50, t51_51, t51_53, t51_54, t51_57, t51_59, t51_60, t51_63, t51_65, t51_66, t51_69, t51_71, t51_72, t51_75, t51_78, t51_80, t51_83, t51_86, t51_87, t51_90, t51_92, t51_93, t51_95, t51_96, t51_98, t51_101, t51_104, t51_105, t51_108, t51_110, t51_111, t51_114, t51_117, t51_118, t51_119, t51_121, t51_122, t51_123, t51_125, t51_127, t51_128, t51_129, t51_131, t51_133, t51_136, t51_138, t51_139, t51_142, t51_145, t51_146, t51_149, t51_150, t51_153, t51_155, t51_156, t51_158, t51_159, t51_160, t51_163, t51_165, t51_166, t51_168, t51_171, t51_174, t51_175, t51_176, t51_179, t51_181, t51_182, t51_185, t51_188, t51_191, t51_192, t51_195, t51_198, t51_199, t51_202, t51_203, lk_s, hp_get, hp_set, uH_at, uH_ne, uH_upd, uH_swap, iZ_add, iZ_sub, iZ_mul, iZ_neg, iZ_lt, iZ_le, iZ_eq, iZ_div, iZ_of, ix_Z, gZ_map, gZ_mapI, gZ_map', le_0, le_s, sZ_map, sZ_len, bZ_0, bZ_inj, bZ_t, bZ_f, nr_i, nr_0, nr_1, nr_b, ft_i, ft_b, ft_0, ft_1, zl_0, zl_1, zl_40, zl_241, p0, p4, hg1, g1', hsy', mm1, mm2, gO, gF, -List.filter_filter, -List.getElem?_map, -List.getD_eq_getElem?_getD]
        refine Gx.run 80 Cs.tt (fun C _ => ?_) g53
        rw [hw1]
        obtain ⟨ww, hww⟩ : ∃ ww : Int, ww = (W.length : Int) := ⟨_, rfl⟩
        rw [← hww] at hg hs1 w9 ⊢
        have ww0 : 0 ≤ ww := by omega
        have b2 : ¬ ww + 1 ≤ 0 := by omega
        have e3 : ww + 1 - 1 = ww := by omega
        simp (disch := first | (refine c1_id ?_; assumption) | (refine c1_st rfl ?_; repeat (first | assumption | refine c1_st rfl ?_)) | omega) [nx_l, nx_r, nx_n, x_st, x_push, x_bin, x_div, x_un, x_dup, x_pop, x_dup2, x_goto, x_ifeq, x_ifne, x_iflt, x_ifge, x_ifgt, x_ifle, x_iceq, x_icne, x_iclt, x_icge, x_icgt, x_icle, x_ifnull, x_ifnonnull, x_ldi, x_lda, x_sti, x_sta, x_iinc, x_gf, x_pf, x_ald, x_ast, x_aln, x_len, x_cl_, x_cv, x_cs, x_rc, x_r0, x_isT, x_oi, x_rv, x_ri, x_ra, Value.category, t51_0, t51_1, t51_4, t51_5, t51_6, t51_7, t51_8, t51_9, t51_12, t51_13, t51_14, t51_15, t51_17, t51_20, t51_21, t51_24, t51_27, t51_28, t51_29, t51_32, t51_33, t51_34, t51_37, t51_38, t51_41, t51_42, t51_45, t51_46, t51_49, t51_50, t51_51, t51_53, t51_54, t51_57, t51_59, t51_60, t51_63, t51_65, t51_66, t51_69, t51_71, t51_72, t51_75, t51_78, t51_80, t51_83, t51_86, t51_87, t51_90, t51_92, t51_93, t51_95, t51_96, t51_98, t51_101, t51_104, t51_105, t51_108, t51_110, t51_111, t51_114, t51_117, t51_118, t51_119, t51_121, t51_122, t51_123, t51_125, t51_127, t51_128, t51_129, t51_131, t51_133, t51_136, t51_138, t51_139, t51_142, t51_145, t51_146, t51_149, t51_150, t51_153, t51_155, t51_156, t51_158, t51_159, t51_160, t51_163, t51_165, t51_166, t51_168, t51_171, t51_174, t51_175, t51_176, t51_179, t51_181, t51_182, t51_185, t51_188, t51_191, t51_192, t51_195, t51_198, t51_199, t51_202, t51_203, lk_s, hp_get, hp_set, uH_at, uH_ne, uH_upd, uH_swap, iZ_add, iZ_sub, iZ_mul, iZ_neg, iZ_lt, iZ_le, iZ_eq, iZ_div, iZ_of, ix_Z, gZ_map, gZ_mapI, gZ_map', le_0, le_s, sZ_map, sZ_len, bZ_0, bZ_inj, bZ_t, bZ_f, nr_i, nr_0, nr_1, nr_b, ft_i, ft_b, ft_0, ft_1, zl_0, zl_1, zl_40, zl_241, l0, l2, l3, hg, hO, g5, hs1, hro, k9, b2, e3, gO, gF, -List.filter_filter, -List.getElem?_map, -List.getD_eq_getElem?_getD]
      have q0 : x_lk ((6, .int (iZ sym)) :: List.filter (x_keep 6) ((5, .int (iZ tr)) :: List.filter (x_keep 5) ((4, .int (iZ (nd : Int))) :: lv.filter (x_keep 4)))) 0 = some (.ref 19) := by rw [lk_s C5, lk_s C4, lk_s hc]; exact l0
      have q2 : x_lk ((6, .int (iZ sym)) :: List.filter (x_keep 6) ((5, .int (iZ tr)) :: List.filter (x_keep 5) ((4, .int (iZ (nd : Int))) :: lv.filter (x_keep 4)))) 2 = some (.ref 15) := by rw [lk_s C5, lk_s C4, lk_s hc]; exact l2
      have q3 : x_lk ((6, .int (iZ sym)) :: List.filter (x_keep 6) ((5, .int (iZ tr)) :: List.filter (x_keep 5) ((4, .int (iZ (nd : Int))) :: lv.filter (x_keep 4)))) 3 = some (.int (iZ k)) := by rw [lk_s C5, lk_s C4, lk_s hc]; exact l3
      have q4 : x_lk ((6, .int (iZ sym)) :: List.filter (x_keep 6) ((5, .int (iZ tr)) :: List.filter (x_keep 5) ((4, .int (iZ (nd : Int))) :: lv.filter (x_keep 4)))) 4 = some (.int (iZ (nd : Int))) := by rw [lk_s C5, lk_s C4, lk_s hc]; rfl
      have q5 : x_lk ((6, .int (iZ sym)) :: List.filter (x_keep 6) ((5, .int (iZ tr)) :: List.filter (x_keep 5) ((4, .int (iZ (nd : Int))) :: lv.filter (x_keep 4)))) 5 = some (.int (iZ tr)) := by rw [lk_s C5, lk_s C4]; rfl
      have q6 : x_lk ((6, .int (iZ sym)) :: List.filter (x_keep 6) ((5, .int (iZ tr)) :: List.filter (x_keep 5) ((4, .int (iZ (nd : Int))) :: lv.filter (x_keep 4)))) 6 = some (.int (iZ sym)) := by rw [lk_s C5]; rfl
      generalize ((6, .int (iZ sym)) :: List.filter (x_keep 6) ((5, .int (iZ tr)) :: List.filter (x_keep 5) ((4, .int (iZ (nd : Int))) :: lv.filter (x_keep 4))) : xL) = lvA at C6 g95 q0 q2 q3 q4 q5 q6
      have hfN : fN N 12 S E B := ⟨by omega, by omega, lE, lB⟩
      have X4 := m16 (w := w1) (a := 12) d sym hf1 hfN (by omega) (by omega) o0 (by omega)
      by_cases hfit : ln - o < 40
      · have hp2 : puL S ln o = true := decide_eq_true ⟨by omega, hfit⟩
        rw [if_pos hp2] at X4
        obtain ⟨w2, hw2⟩ : ∃ w2, w2 = uH (uH w1 12 (fC 12 c (ln + 1) o)) 13 (cI 0 (sZ S ln sym)) := ⟨_, rfl⟩
        have X4' : Xc (d + 1) 16 [.ref 15, .int (iZ sym)] (hp w1 N) (some (.int (iZ 1)), hp w2 N) := by rw [hw2]; exact X4
        have hf2 : fo w2 12 (sZ S ln sym) E B c (ln + 1) o := by rw [hw2]; exact hf1.put sym
        have F2 : Fr ksC w w2 := by rw [hw2]; exact (F1.up (by decide)).up (by decide)
        have hg2 : w2 16 = gO l W.length := by rw [hw2, uH_ne (by decide), uH_ne (by decide)]; exact hg1
        have hO2 : w2 22 = cI 0 Os := by rw [hw2, uH_ne (by decide), uH_ne (by decide)]; exact hO1
        have B2 := hB.mv F2
        have D7 := c1_st (i := 7) (v := .int (iZ ((nd + 1 : Nat) : Int))) rfl C6
        have D8 := c1_st (i := 8) (v := .int (iZ (((ar (pz P nd) : Nat) : Int) - 1))) rfl D7
        obtain ⟨Os', lvB, a1, a2, a3, a4, a5, a6⟩ := l51i (P := P) (d + 1) hN W (by omega) g3 g4 v1 v2 (ar (pz P nd)) (nd + 1) Os w2 ((8, .int (iZ (((ar (pz P nd) : Nat) : Int) - 1))) :: List.filter (x_keep 8) ((7, .int (iZ ((nd + 1 : Nat) : Int))) :: lvA.filter (x_keep 7))) har (fun y hy => ((args_ok hr (v6 nd hr)).2 y hy).2.1) (by omega) hs2 nO hg2 B2.2.1 hO2 D8 (by rw [lk_s D7, lk_s C6]; exact q0) (by rw [lk_s D7, lk_s C6]; rfl) (by rw [lk_s D7]; rfl)
        have g131 : ∀ res, Gx q_k51 (d + 1) 131 ((8, .int (iZ (((ar (pz P nd) : Nat) : Int) - 1))) :: List.filter (x_keep 8) ((7, .int (iZ ((nd + 1 : Nat) : Int))) :: lvA.filter (x_keep 7)), [], hp w2 N) res → Gx q_k51 (d + 1) 95 (lvA, [], hp w1 N) res := fun res hgg => by
          obtain ⟨fa1, fs1, fe1, fg1⟩ := hf1
          refine Gx.run 60 X4' (fun C mm => ?_) hgg
          rw [← htr, show ((nd + 1 : Nat) : Int) = (nd : Int) + 1 by omega]
          obtain ⟨ww, hww⟩ : ∃ ww : Int, ww = (W.length : Int) := ⟨_, rfl⟩
          rw [← hww] at hg2 w9
          have ww0 : 0 ≤ ww := by omega
          have b3 : ww + tr ≤ 241 := by omega
          simp (disch := first | (refine c1_id ?_; assumption) | (refine c1_st rfl ?_; repeat (first | assumption | refine c1_st rfl ?_)) | omega) [nx_l, nx_r, nx_n, x_st, x_push, x_bin, x_div, x_un, x_dup, x_pop, x_dup2, x_goto, x_ifeq, x_ifne, x_iflt, x_ifge, x_ifgt, x_ifle, x_iceq, x_icne, x_iclt, x_icge, x_icgt, x_icle, x_ifnull, x_ifnonnull, x_ldi, x_lda, x_sti, x_sta, x_iinc, x_gf, x_pf, x_ald, x_ast, x_aln, x_len, x_cl_, x_cv, x_cs, x_rc, x_r0, x_isT, x_oi, x_rv, x_ri, x_ra, Value.category, t51_0, t51_1, t51_4, t51_5, t51_6, t51_7, t51_8, t51_9, t51_12, t51_13, t51_14, t51_15, t51_17, t51_20, t51_21, t51_24, t51_27, t51_28, t51_29, t51_32, t51_33, t51_34, t51_37, t51_38, t51_41, t51_42, t51_45, t51_46, t51_49, t51_50, t51_51, t51_53, t51_54, t51_57, t51_59, t51_60, t51_63, t51_65, t51_66, t51_69, t51_71, t51_72, t51_75, t51_78, t51_80, t51_83, t51_86, t51_87, t51_90, t51_92, t51_93, t51_95, t51_96, t51_98, t51_101, t51_104, t51_105, t51_108, t51_110, t51_111, t51_114, t51_117, t51_118, t51_119, t51_121, t51_122, t51_123, t51_125, t51_127, t51_128, t51_129, t51_131, t51_133, t51_136, t51_138, t51_139, t51_142, t51_145, t51_146, t51_149, t51_150, t51_153, t51_155, t51_156, t51_158, t51_159, t51_160, t51_163, t51_165, t51_166, t51_168, t51_171, t51_174, t51_175, t51_176, t51_179, t51_181, t51_182, t51_185, t51_188, t51_191, t51_192, t51_195, t51_198, t51_199, t51_202, t51_203, lk_s, hp_get, hp_set, uH_at, uH_ne, uH_upd, uH_swap, iZ_add, iZ_sub, iZ_mul, iZ_neg, iZ_lt, iZ_le, iZ_eq, iZ_div, iZ_of, ix_Z, gZ_map, gZ_mapI, gZ_map', le_0, le_s, sZ_map, sZ_len, bZ_0, bZ_inj, bZ_t, bZ_f, nr_i, nr_0, nr_1, nr_b, ft_i, ft_b, ft_0, ft_1, zl_0, zl_1, zl_40, zl_241, q0, q2, q3, q4, q5, q6, fa1, hg2, b3, mm, gO, gF, -List.filter_filter, -List.getElem?_map, -List.getD_eq_getElem?_getD]
        obtain ⟨w3, hw3⟩ : ∃ w3, w3 = uH (uH w2 22 (cI 0 Os')) 16 (gO l (((args P nd ++ W).length : Nat) : Int)) := ⟨_, rfl⟩
        have F3 : Fr ksC w w3 := by rw [hw3]; exact (F2.up (by decide)).up (by decide)
        have hf3 : fo w3 12 (sZ S ln sym) E B c (ln + 1) o := by
          obtain ⟨fa, fs, fe, fg⟩ := hf2
          rw [hw3]
          exact ⟨by rw [uH_ne (by decide), uH_ne (by decide)]; exact fa, by rw [uH_ne (by decide), uH_ne (by decide)]; exact fs, by rw [uH_ne (by decide), uH_ne (by decide)]; exact fe, by rw [uH_ne (by decide), uH_ne (by decide)]; exact fg⟩
        have la : (((args P nd ++ W).length : Nat) : Int) = (W.length : Int) + tr := by
          rw [List.length_append]
          unfold args
          rw [apos_len]
          omega
        have D3 := c1_st (i := 3) (v := .int (iZ (k + 1))) rfl a4
        have b0 : x_lk lvB 0 = some (.ref 19) := by rw [a5 0 (by decide) (by decide), lk_s D7, lk_s C6]; exact q0
        have b2' : x_lk lvB 2 = some (.ref 15) := by rw [a5 2 (by decide) (by decide), lk_s D7, lk_s C6]; exact q2
        have b3' : x_lk lvB 3 = some (.int (iZ k)) := by rw [a5 3 (by decide) (by decide), lk_s D7, lk_s C6]; exact q3
        have b5' : x_lk lvB 5 = some (.int (iZ tr)) := by rw [a5 5 (by decide) (by decide), lk_s D7, lk_s C6]; exact q5
        have g174 : ∀ res, Gx q_k51 (d + 1) 14 ((3, .int (iZ (k + 1))) :: lvB.filter (x_keep 3), [], hp w3 N) res → Gx q_k51 (d + 1) 174 (lvB, [], hp (uH w2 22 (cI 0 Os')) N) res := fun res hgg => by
          have hg2' : (uH w2 22 (cI 0 Os')) 16 = gO l W.length := by rw [uH_ne (by decide)]; exact hg2
          refine Gx.run 40 Cs.tt (fun C _ => ?_) hgg
          rw [hw3, la]
          generalize uH w2 22 (cI 0 Os') = w22 at hg2' ⊢
          obtain ⟨ww, hww⟩ : ∃ ww : Int, ww = (W.length : Int) := ⟨_, rfl⟩
          rw [← hww] at hg2' ⊢
          simp (disch := first | (refine c1_id ?_; assumption) | (refine c1_st rfl ?_; repeat (first | assumption | refine c1_st rfl ?_)) | omega) [nx_l, nx_r, nx_n, x_st, x_push, x_bin, x_div, x_un, x_dup, x_pop, x_dup2, x_goto, x_ifeq, x_ifne, x_iflt, x_ifge, x_ifgt, x_ifle, x_iceq, x_icne, x_iclt, x_icge, x_icgt, x_icle, x_ifnull, x_ifnonnull, x_ldi, x_lda, x_sti, x_sta, x_iinc, x_gf, x_pf, x_ald, x_ast, x_aln, x_len, x_cl_, x_cv, x_cs, x_rc, x_r0, x_isT, x_oi, x_rv, x_ri, x_ra, Value.category, t51_0, t51_1, t51_4, t51_5, t51_6, t51_7, t51_8, t51_9, t51_12, t51_13, t51_14, t51_15, t51_17, t51_20, t51_21, t51_24, t51_27, t51_28, t51_29, t51_32, t51_33, t51_34, t51_37, t51_38, t51_41, t51_42, t51_45, t51_46, t51_49, t51_50, t51_51, t51_53, t51_54, t51_57, t51_59, t51_60, t51_63, t51_65, t51_66, t51_69, t51_71, t51_72, t51_75, t51_78, t51_80, t51_83, t51_86, t51_87, t51_90, t51_92, t51_93, t51_95, t51_96, t51_98, t51_101, t51_104, t51_105, t51_108, t51_110, t51_111, t51_114, t51_117, t51_118, t51_119, t51_121, t51_122, t51_123, t51_125, t51_127, t51_128, t51_129, t51_131, t51_133, t51_136, t51_138, t51_139, t51_142, t51_145, t51_146, t51_149, t51_150, t51_153, t51_155, t51_156, t51_158, t51_159, t51_160, t51_163, t51_165, t51_166, t51_168, t51_171, t51_174, t51_175, t51_176, t51_179, t51_181, t51_182, t51_185, t51_188, t51_191, t51_192, t51_195, t51_198, t51_199, t51_202, t51_203, lk_s, hp_get, hp_set, uH_at, uH_ne, uH_upd, uH_swap, iZ_add, iZ_sub, iZ_mul, iZ_neg, iZ_lt, iZ_le, iZ_eq, iZ_div, iZ_of, ix_Z, gZ_map, gZ_mapI, gZ_map', le_0, le_s, sZ_map, sZ_len, bZ_0, bZ_inj, bZ_t, bZ_f, nr_i, nr_0, nr_1, nr_b, ft_i, ft_b, ft_0, ft_1, zl_0, zl_1, zl_40, zl_241, b0, b3', b5', hg2', gO, gF, -List.filter_filter, -List.getElem?_map, -List.getD_eq_getElem?_getD]
        have I := ih (args P nd ++ W) (k + 1) (ln + 1) (sZ S ln sym) Os' w3 ((3, .int (iZ (k + 1))) :: lvB.filter (x_keep 3)) (by rw [← er2]; exact hn') (fun y hy => by
          rcases List.mem_append.mp hy with hy | hy
          · exact ((args_ok hr (v6 nd hr)).2 y hy).2.1
          · exact hx y (List.mem_cons_of_mem _ hy)) a2 (by rw [la]; omega) (by omega) (by omega) (by omega) (by rw [hw3, uH_at]) (by rw [hw3, uH_ne (by decide), uH_at]) a1 hf3 (by rw [sZ_len]; exact nS) (hB.mv F3) D3 (by rw [lk_s a4]; exact b0) (by rw [lk_s a4]; exact b2') (by rw [lk_s a4]; rfl)
        have eS : ∀ j, 0 ≤ j → gZ (sZ S ln sym) j = if ln = j then sym else gZ S j := fun j j0 => gZ_sZ (by omega) (by omega) j0
        have whole_ : ∀ res, Gx q_k51 (d + 1) 14 ((3, .int (iZ (k + 1))) :: lvB.filter (x_keep 3), [], hp w3 N) res → Gx q_k51 (d + 1) 14 (lv, [], hp w N) res := fun res hgg => g95 _ (g131 _ (a6 _ (g174 _ hgg)))
        refine ⟨fun hle => ?_, fun hgt => ?_⟩
        · obtain ⟨w', S', Os2, j1, j2, j3, j4, j5, j6, j7, j8, j9⟩ := I.1 (by omega)
          refine ⟨w', S', Os2, F3.tr j1, by rw [show ln + ((n + 1 : Nat) : Int) = ln + 1 + (n : Int) by omega]; exact j2, j3, fun j j0 jl => ?_, fun j hj => ?_, j6, j7, j8, whole_ _ j9⟩
          · rw [j4 j j0 (by omega), eS j j0, if_neg (by omega)]
          · cases j with
            | zero =>
              rw [show ln + ((0 : Nat) : Int) = ln by omega, j4 ln (by omega) (by omega), eS ln (by omega), if_pos rfl, hsym, er1]
              rfl
            | succ j =>
              have := j5 j (by omega)
              rw [show ln + 1 + (j : Int) = ln + ((j + 1 : Nat) : Int) by omega] at this
              rw [this, er1, ← er2]
              rfl
        · obtain ⟨w', S', Os2, ln', wt', j1, j2, j3, j4, j5, j6, j7, j8, j9, j10⟩ := I.2 (by omega)
          exact ⟨w', S', Os2, ln', wt', F3.tr j1, j2, j3, j4, j5, j6, by omega, j8, fun j j0 jl => by rw [j9 j j0 (by omega), eS j j0, if_neg (by omega)], whole_ _ j10⟩
      · have hp2 : ¬ puL S ln o = true := fun z => hfit (of_decide_eq_true z).2
        rw [if_neg hp2] at X4
        have X4' : Xc (d + 1) 16 [.ref 15, .int (iZ sym)] (hp w1 N) (some (.int (iZ 0)), hp w1 N) := X4
        refine ⟨fun z => by omega, fun _ => ⟨w1, S, Os, ln, _, F1, hf1, nS, hg1, hO1, nO, by omega, by omega, fun _ _ _ => rfl, g95 _ (Gx.fin 40 X4' (fun C mm => ?_))⟩⟩
        obtain ⟨fa1, fs1, fe1, fg1⟩ := hf1
        simp (disch := first | (refine c1_id ?_; assumption) | (refine c1_st rfl ?_; repeat (first | assumption | refine c1_st rfl ?_)) | omega) [nx_l, nx_r, nx_n, x_st, x_push, x_bin, x_div, x_un, x_dup, x_pop, x_dup2, x_goto, x_ifeq, x_ifne, x_iflt, x_ifge, x_ifgt, x_ifle, x_iceq, x_icne, x_iclt, x_icge, x_icgt, x_icle, x_ifnull, x_ifnonnull, x_ldi, x_lda, x_sti, x_sta, x_iinc, x_gf, x_pf, x_ald, x_ast, x_aln, x_len, x_cl_, x_cv, x_cs, x_rc, x_r0, x_isT, x_oi, x_rv, x_ri, x_ra, Value.category, t51_0, t51_1, t51_4, t51_5, t51_6, t51_7, t51_8, t51_9, t51_12, t51_13, t51_14, t51_15, t51_17, t51_20, t51_21, t51_24, t51_27, t51_28, t51_29, t51_32, t51_33, t51_34, t51_37, t51_38, t51_41, t51_42, t51_45, t51_46, t51_49, t51_50, t51_51, t51_53, t51_54, t51_57, t51_59, t51_60, t51_63, t51_65, t51_66, t51_69, t51_71, t51_72, t51_75, t51_78, t51_80, t51_83, t51_86, t51_87, t51_90, t51_92, t51_93, t51_95, t51_96, t51_98, t51_101, t51_104, t51_105, t51_108, t51_110, t51_111, t51_114, t51_117, t51_118, t51_119, t51_121, t51_122, t51_123, t51_125, t51_127, t51_128, t51_129, t51_131, t51_133, t51_136, t51_138, t51_139, t51_142, t51_145, t51_146, t51_149, t51_150, t51_153, t51_155, t51_156, t51_158, t51_159, t51_160, t51_163, t51_165, t51_166, t51_168, t51_171, t51_174, t51_175, t51_176, t51_179, t51_181, t51_182, t51_185, t51_188, t51_191, t51_192, t51_195, t51_198, t51_199, t51_202, t51_203, lk_s, hp_get, hp_set, uH_at, uH_ne, uH_upd, uH_swap, iZ_add, iZ_sub, iZ_mul, iZ_neg, iZ_lt, iZ_le, iZ_eq, iZ_div, iZ_of, ix_Z, gZ_map, gZ_mapI, gZ_map', le_0, le_s, sZ_map, sZ_len, bZ_0, bZ_inj, bZ_t, bZ_f, nr_i, nr_0, nr_1, nr_b, ft_i, ft_b, ft_0, ft_1, zl_0, zl_1, zl_40, zl_241, q0, q2, q6, fa1, mm, -List.filter_filter, -List.getElem?_map, -List.getD_eq_getElem?_getD]
theorem m51 (d : Nat) (hN : 53 ≤ N) (o0 : 0 ≤ o) (o9 : o ≤ 40) (lE : E.length < 10000) (lB : B.length < 10000) {S Os : List Int} {ln wt : Int} {w : Nat → xC} (x : Nat) (hx : x < P.length) (ln0 : 0 ≤ ln - o) (ln9 : ln - o ≤ 40) (hg : w 16 = gO l wt) (hO : w 22 = cI 0 Os) (nO : Os.length = 241) (hf : fo w 12 S E B c ln o) (nS : S.length = 80) (hB : GB w P Sy Ee Ro l fd rk K) :
    (ln - o + (ex P fd K x).length ≤ 40 → ∃ (w' : Nat → xC) (S' Os' : List Int), Fr ksC w w' ∧ fo w' 12 S' E B c (ln + (ex P fd K x).length) o ∧ S'.length = 80 ∧ (∀ j, 0 ≤ j → j < ln → gZ S' j = gZ S j) ∧ (∀ j : Nat, j < (ex P fd K x).length → gZ S' (ln + j) = vc (fV P fd ((ex P fd K x).getD j 0))) ∧ w' 16 = gO l 0 ∧ w' 22 = cI 0 Os' ∧ Os'.length = 241 ∧ Xc (d + 2) 51 [.ref 19, .int (iZ (x : Int)), .ref 15] (hp w N) (some (.int (iZ 1)), hp w' N)) ∧
    (40 < ln - o + (ex P fd K x).length → ∃ (w' : Nat → xC) (S' Os' : List Int) (ln' wt' : Int), Fr ksC w w' ∧ fo w' 12 S' E B c ln' o ∧ S'.length = 80 ∧ w' 16 = gO l wt' ∧ w' 22 = cI 0 Os' ∧ Os'.length = 241 ∧ ln ≤ ln' ∧ ln' ≤ 80 ∧ (∀ j, 0 ≤ j → j < ln → gZ S' j = gZ S j) ∧ Xc (d + 2) 51 [.ref 19, .int (iZ (x : Int)), .ref 15] (hp w N) (some (.int (iZ 0)), hp w' N)) := by
  have v2 := hB.2.2.2.2.2.2.2.1.2.1
  have v1 := hB.2.2.2.2.2.2.2.1.1
  have hc : c1 (lv_args 0 [.ref 19, .int (iZ (x : Int)), .ref 15]) := by simp [c1, lv_args, Value.category]
  have l0 : x_lk (lv_args 0 [.ref 19, .int (iZ (x : Int)), .ref 15]) 0 = some (.ref 19) := rfl
  have l1 : x_lk (lv_args 0 [.ref 19, .int (iZ (x : Int)), .ref 15]) 1 = some (.int (iZ (x : Int))) := rfl
  have l2 : x_lk (lv_args 0 [.ref 19, .int (iZ (x : Int)), .ref 15]) 2 = some (.ref 15) := rfl
  have C3 := c1_st (i := 3) (v := .int (iZ 0)) rfl hc
  obtain ⟨w1, hw1⟩ : ∃ w1, w1 = uH (uH w 16 (gO l 1)) 22 (cI 0 (sZ Os 0 (x : Int))) := ⟨_, rfl⟩
  have F1 : Fr ksC w w1 := by rw [hw1]; exact ((Fr.rf _ _).up (by decide)).up (by decide)
  have hf1 : fo w1 12 S E B c ln o := by
    obtain ⟨fa, fs, fe, fg⟩ := hf
    rw [hw1]
    exact ⟨by rw [uH_ne (by decide), uH_ne (by decide)]; exact fa, by rw [uH_ne (by decide), uH_ne (by decide)]; exact fs, by rw [uH_ne (by decide), uH_ne (by decide)]; exact fe, by rw [uH_ne (by decide), uH_ne (by decide)]; exact fg⟩
  have g0 : ∀ res, Gx q_k51 (d + 1) 14 ((3, .int (iZ 0)) :: List.filter (x_keep 3) (lv_args 0 [.ref 19, .int (iZ (x : Int)), .ref 15]), [], hp w1 N) res → Gx q_k51 (d + 1) 0 (lv_args 0 [.ref 19, .int (iZ (x : Int)), .ref 15], [], hp w N) res := fun res hgg => by
    generalize lv_args 0 [.ref 19, .int (iZ (x : Int)), .ref 15] = lv at hc l0 l1 l2 hgg
    refine Gx.run 40 Cs.tt (fun C _ => ?_) hgg
    rw [hw1]
    simp (disch := first | (refine c1_id ?_; assumption) | (refine c1_st rfl ?_; repeat (first | assumption | refine c1_st rfl ?_)) | omega) [nx_l, nx_r, nx_n, x_st, x_push, x_bin, x_div, x_un, x_dup, x_pop, x_dup2, x_goto, x_ifeq, x_ifne, x_iflt, x_ifge, x_ifgt, x_ifle, x_iceq, x_icne, x_iclt, x_icge, x_icgt, x_icle, x_ifnull, x_ifnonnull, x_ldi, x_lda, x_sti, x_sta, x_iinc, x_gf, x_pf, x_ald, x_ast, x_aln, x_len, x_cl_, x_cv, x_cs, x_rc, x_r0, x_isT, x_oi, x_rv, x_ri, x_ra, Value.category, t51_0, t51_1, t51_4, t51_5, t51_6, t51_7, t51_8, t51_9, t51_12, t51_13, t51_14, t51_15, t51_17, t51_20, t51_21, t51_24, t51_27, t51_28, t51_29, t51_32, t51_33, t51_34, t51_37, t51_38, t51_41, t51_42, t51_45, t51_46, t51_49, t51_50, t51_51, t51_53, t51_54, t51_57, t51_59, t51_60, t51_63, t51_65, t51_66, t51_69, t51_71, t51_72, t51_75, t51_78, t51_80, t51_83, t51_86, t51_87, t51_90, t51_92, t51_93, t51_95, t51_96, t51_98, t51_101, t51_104, t51_105, t51_108, t51_110, t51_111, t51_114, t51_117, t51_118, t51_119, t51_121, t51_122, t51_123, t51_125, t51_127, t51_128, t51_129, t51_131, t51_133, t51_136, t51_138, t51_139, t51_142, t51_145, t51_146, t51_149, t51_150, t51_153, t51_155, t51_156, t51_158, t51_159, t51_160, t51_163, t51_165, t51_166, t51_168, t51_171, t51_174, t51_175, t51_176, t51_179, t51_181, t51_182, t51_185, t51_188, t51_191, t51_192, t51_195, t51_198, t51_199, t51_202, t51_203, lk_s, hp_get, hp_set, uH_at, uH_ne, uH_upd, uH_swap, iZ_add, iZ_sub, iZ_mul, iZ_neg, iZ_lt, iZ_le, iZ_eq, iZ_div, iZ_of, ix_Z, gZ_map, gZ_mapI, gZ_map', le_0, le_s, sZ_map, sZ_len, bZ_0, bZ_inj, bZ_t, bZ_f, nr_i, nr_0, nr_1, nr_b, ft_i, ft_b, ft_0, ft_1, zl_0, zl_1, zl_40, zl_241, l0, l1, l2, hg, hO, gO, gF, -List.filter_filter, -List.getElem?_map, -List.getD_eq_getElem?_getD]
  have er : rW P fd K [x] = ex P fd K x := by
    unfold rW
    simp
  have I := l51 (P := P) (fd := fd) (K := K) d hN o0 o9 lE lB (ex P fd K x).length [x] 0 ln S (sZ Os 0 (x : Int)) w1 _ (by rw [er]) (fun y hy => by rw [List.mem_singleton] at hy; rw [hy]; exact hx) ⟨by show gZ (sZ Os 0 (x : Int)) ((0 : Nat) : Int) = x; rw [gZ_sZ (by omega) (by omega) (by omega), if_pos (by omega)], True.intro⟩ (by simp) (by omega) ln0 ln9 (by rw [hw1, uH_ne (by decide), uH_at]; rfl) (by rw [hw1, uH_at]) (by rw [sZ_len]; exact nO) hf1 nS (hB.mv F1) C3 (by rw [lk_s hc]; exact l0) (by rw [lk_s hc]; exact l2) (by rw [lk_s hc]; rfl)
  rw [er] at I
  have le : ∀ (w' : Nat → xC) (S' Os' : List Int) (ln' wt' : Int), Fr ksC w w' → fo w' 12 S' E B c ln' o → S'.length = 80 → w' 16 = gO l wt' → w' 22 = cI 0 Os' → Os'.length = 241 → x_le (hp w N) (hp w' N) := fun w' S' Os' ln' wt' f hf' nS' hg' hO' nO' => hp_le (Nat.le_refl _) (fun j _ => by
    by_cases hj : j ∈ ksC
    · unfold ksC at hj
      simp only [List.mem_cons, List.not_mem_nil, or_false] at hj
      rcases hj with rfl | rfl | rfl | rfl
      · rw [hf.1, hf'.1]; simp [x_c1]
      · have e1 : w 13 = cI 0 S := hf.2.1
        have e2 : w' 13 = cI 0 S' := hf'.2.1
        rw [e1, e2]; simp [x_c1, nS, nS']
      · rw [hg, hg']; simp [x_c1, gF]
      · rw [hO, hO']; simp [x_c1, nO, nO']
    · rw [f j hj]
      exact Nat.le_refl _)
  refine ⟨fun hle => ?_, fun hgt => ?_⟩
  · obtain ⟨w', S', Os', j1, j2, j3, j4, j5, j6, j7, j8, j9⟩ := I.1 hle
    exact ⟨w', S', Os', F1.tr j1, j2, j3, j4, j5, j6, j7, j8, Xc.of rfl (by simp [lg_sl, Value.category]) (g0 _ j9) (le w' S' Os' _ _ (F1.tr j1) j2 j3 j6 j7 j8)⟩
  · obtain ⟨w', S', Os', ln', wt', j1, j2, j3, j4, j5, j6, j7, j8, j9, j10⟩ := I.2 hgt
    exact ⟨w', S', Os', ln', wt', F1.tr j1, j2, j3, j4, j5, j6, j7, j8, j9, Xc.of rfl (by simp [lg_sl, Value.category]) (g0 _ j10) (le w' S' Os' _ _ (F1.tr j1) j2 j3 j4 j5 j6)⟩
end CU
