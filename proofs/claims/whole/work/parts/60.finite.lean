/-! the class's graph: one round over all places -/

def cn (P Fi : List Int) : Nat := (List.range P.length).countP (fun i : Nat => decide (gZ Fi (i : Int) = 1))
/-- after the places above p: what changed, and whether all were finite -/
def SW (P : List Int) (fd : Nat → Nat) (Fi0 Fi : List Int) (p : Int) (cg al : Bool) : Prop :=
  FI P fd Fi ∧ (∀ i : Nat, i < P.length → gZ Fi0 i = 1 → gZ Fi i = 1) ∧ (al = true → ∀ r : Nat, r < P.length → p < (r : Int) → fd r = r → gZ Fi r = 1) ∧
  (cg = false → (∀ i : Nat, i < P.length → gZ Fi i = gZ Fi0 i) ∧ (∀ r : Nat, r < P.length → p < (r : Int) → fd r = r → gZ Fi r = 0 → allF P fd Fi r = false) ∧ (al = false → ∃ r : Nat, r < P.length ∧ fd r = r ∧ gZ Fi r = 0)) ∧ (cg = true → cn P Fi0 < cn P Fi)
section SWP
variable {P : List Int} {fd : Nat → Nat} {Fi0 Fi : List Int} {r : Nat} {cg al : Bool}
theorem SW.skip (h : SW P fd Fi0 Fi r cg al) (hs : ¬ (fd r = r ∧ gZ Fi r = 0)) : SW P fd Fi0 Fi ((r : Int) - 1) cg al := by
  obtain ⟨h1, h2, h3, h4, h5⟩ := h
  refine ⟨h1, h2, fun e q hq hp hf => ?_, fun e => ⟨(h4 e).1, fun q hq hp hf h0 => ?_, (h4 e).2.2⟩, h5⟩
  · by_cases he : q = r
    · subst he
      rcases h1.2.1 (q : Int) with z | z
      · exact absurd ⟨hf, z⟩ hs
      · exact z
    · exact h3 e q hq (by omega) hf
  · by_cases he : q = r
    · subst he
      exact absurd ⟨hf, h0⟩ hs
    · exact (h4 e).2.1 q hq (by omega) hf h0
theorem SW.none (h : SW P fd Fi0 Fi r cg al) (hr : r < P.length) (hf : fd r = r) (h0 : gZ Fi r = 0) (ha : allF P fd Fi r = false) : SW P fd Fi0 Fi ((r : Int) - 1) cg false := by
  obtain ⟨h1, h2, h3, h4, h5⟩ := h
  refine ⟨h1, h2, (fun e => by cases e), fun e => ⟨(h4 e).1, fun q hq hp hf h0 => ?_, fun _ => ⟨r, hr, hf, h0⟩⟩, h5⟩
  by_cases he : q = r
  · subst he
    exact ha
  · exact (h4 e).2.1 q hq (by omega) hf h0
theorem cn_mark (hl : Fi.length = 80) (hP : P.length ≤ 80) (hr : r < P.length) (h0 : gZ Fi r = 0) : cn P Fi < cn P (sZ Fi r 1) := by
  refine count_lt2 (s := r) hr (fun i hi g => ?_) ?_ (decide_eq_false (by omega))
  · have g' := of_decide_eq_true g
    refine decide_eq_true ?_
    rw [gZ_sZ (by omega) (by omega) (by omega)]
    split
    · rfl
    · exact g'
  · refine decide_eq_true ?_
    rw [gZ_sZ (by omega) (by omega) (by omega), if_pos rfl]
theorem SW.mark (hP : P.length ≤ 80) (hlt : ∀ i, i < P.length → fd i < P.length) (hT : ∀ i, i < P.length → Ts 1 (tm P i)) (h : SW P fd Fi0 Fi r cg al) (hr : r < P.length) (hf : fd r = r) (h0 : gZ Fi r = 0) (ha : allF P fd Fi r = true) : SW P fd Fi0 (sZ Fi r 1) ((r : Int) - 1) true al := by
  obtain ⟨h1, h2, h3, h4, h5⟩ := h
  have hl := h1.1
  have g : ∀ i : Nat, gZ Fi i = 1 → gZ (sZ Fi r 1) i = 1 := fun i hi => by
    rw [gZ_sZ (by omega) (by omega) (by omega)]
    split
    · rfl
    · exact hi
  have hc := cn_mark hl hP hr h0
  refine ⟨h1.mark hP hlt hT hr hf h0 ha, fun i hi z => g i (h2 i hi z), fun e q hq hp hf => ?_, (fun e => by cases e), fun _ => ?_⟩
  · by_cases he : q = r
    · subst he
      rw [gZ_sZ (by omega) (by omega) (by omega), if_pos rfl]
    · exact g q (h3 e q hq (by omega) hf)
  · cases cg with
    | true => exact Nat.lt_trans (h5 rfl) hc
    | false =>
      have : cn P Fi = cn P Fi0 := by
        unfold cn
        apply List.countP_congr
        intro i hi
        rw [(h4 rfl).1 i (List.mem_range.mp hi)]
      omega
end SWP
section AF
variable {w : Nat → xC} {N : Nat} {l wt : Int} {Sy Ee Ro P : List Int}
set_option maxHeartbeats 4000000 in
theorem l48_66 (d : Nat) (hN : 53 ≤ N) (hV : GV P Sy l) (hg : w 16 = gO l wt) (hSy : w 17 = cI 0 Sy) (hE : w 18 = cI 0 Ee) (e1 : Ee.length = 80) (hEe : ∀ i, 0 ≤ i → i < l → gZ Ee i = i + (tm P i.toNat).length) (hR : w 19 = cI 0 Ro) (e2 : Ro.length = 80) (hr : ∀ i, 0 ≤ i → i < 80 → 0 ≤ gZ Ro i ∧ gZ Ro i < 80) (fd : Nat → Nat) (hfd : ∀ i : Nat, i < P.length → gZ Ro i = fd i) (hlt : ∀ i, i < P.length → fd i < P.length) (Fi0 : List Int) (rd : Int) : ∀ (r : Nat) (k : Int) (Fi : List Int) (cg al : Bool) (lv : xL), r ≤ P.length → k + 1 = r → SW P fd Fi0 Fi k cg al → c1 lv → x_lk lv 0 = some (.ref 19) → x_lk lv 1 = some (.int (iZ (bZ cg))) → x_lk lv 2 = some (.int (iZ (bZ al))) → x_lk lv 3 = some (.int (iZ rd)) → x_lk lv 4 = some (.int (iZ k)) →
    ∃ (Fi' : List Int) (cg' al' : Bool) (lv' : xL), SW P fd Fi0 Fi' (-1) cg' al' ∧ c1 lv' ∧ x_lk lv' 0 = some (.ref 19) ∧ x_lk lv' 1 = some (.int (iZ (bZ cg'))) ∧ x_lk lv' 2 = some (.int (iZ (bZ al'))) ∧ x_lk lv' 3 = some (.int (iZ rd)) ∧ ∀ res, Gx q_k48 (d + 2) 152 (lv', [], hp (uH w 21 (cI 1 Fi')) N) res → Gx q_k48 (d + 2) 66 (lv, [], hp (uH w 21 (cI 1 Fi)) N) res := by
  have hV' := hV
  obtain ⟨v1, v2, v3, v4, v5, v6⟩ := hV'
  intro r
  induction r with
  | zero =>
    intro k Fi cg al lv hrP hk hW hc l0 l1 l2 l3 l4
    obtain rfl : k = -1 := by omega
    refine ⟨Fi, cg, al, lv, hW, hc, l0, l1, l2, l3, fun res k3 => Gx.run 20 Cs.tt (fun C _ => ?_) k3⟩
    simp (disch := first | (refine c1_id ?_; assumption) | (refine c1_st rfl ?_; repeat (first | assumption | refine c1_st rfl ?_)) | omega) [nx_l, nx_r, nx_n, x_st, x_push, x_bin, x_div, x_un, x_dup, x_pop, x_dup2, x_goto, x_ifeq, x_ifne, x_iflt, x_ifge, x_ifgt, x_ifle, x_iceq, x_icne, x_iclt, x_icge, x_icgt, x_icle, x_ifnull, x_ifnonnull, x_ldi, x_lda, x_sti, x_sta, x_iinc, x_gf, x_pf, x_ald, x_ast, x_aln, x_len, x_cl_, x_cv, x_cs, x_rc, x_r0, x_isT, x_oi, x_rv, x_ri, x_ra, Value.category, t48_0, t48_1, t48_2, t48_3, t48_4, t48_7, t48_10, t48_11, t48_14, t48_15, t48_16, t48_17, t48_20, t48_21, t48_22, t48_25, t48_26, t48_27, t48_28, t48_31, t48_34, t48_35, t48_36, t48_37, t48_38, t48_39, t48_40, t48_41, t48_43, t48_46, t48_47, t48_50, t48_51, t48_54, t48_55, t48_56, t48_57, t48_58, t48_59, t48_62, t48_63, t48_64, t48_66, t48_68, t48_71, t48_72, t48_75, t48_77, t48_78, t48_80, t48_83, t48_84, t48_87, t48_89, t48_90, t48_93, t48_94, t48_97, t48_99, t48_100, t48_102, t48_105, t48_106, t48_107, t48_110, t48_111, t48_114, t48_116, t48_117, t48_120, t48_121, t48_124, t48_125, t48_126, t48_127, t48_130, t48_131, t48_134, t48_136, t48_137, t48_140, t48_141, t48_144, t48_145, t48_146, t48_149, t48_152, t48_155, t48_158, t48_159, lk_s, hp_get, hp_set, uH_at, uH_ne, uH_upd, uH_swap, iZ_add, iZ_sub, iZ_mul, iZ_neg, iZ_lt, iZ_le, iZ_eq, iZ_div, iZ_of, ix_Z, gZ_map, gZ_mapI, gZ_map', le_0, le_s, sZ_map, sZ_len, bZ_0, bZ_inj, bZ_t, bZ_f, nr_i, nr_0, nr_1, nr_b, ft_i, ft_b, ft_0, ft_1, zl_0, zl_1, zl_80, l0, l4, -List.filter_filter, -List.getElem?_map, -List.getD_eq_getElem?_getD]
  | succ r ih =>
    intro k Fi cg al lv hrP hk hW hc l0 l1 l2 l3 l4
    obtain rfl : k = (r : Int) := by omega
    have hrl : r < P.length := by omega
    have hF1 := hW.1.1
    have hF2 := hW.1.2.1
    have hrr := hfd r hrl
    have b0 : ¬ (r : Int) < 0 := by omega
    have q0 : vp_nar .boolean (iZ 0) = iZ 0 := by decide
    have q1 : vp_nar .boolean (iZ 1) = iZ 1 := by decide
    have bm : (r : Int) + -1 = (r : Int) - 1 := by omega
    by_cases hs : fd r = r ∧ gZ Fi r = 0
    · have hro : gZ Ro r = (r : Int) := by rw [hrr, hs.1]
      have mm := m49 d (w := uH w 21 (cI 1 Fi)) (N := N) (l := l) (wt := wt) (Sy := Sy) (Ee := Ee) (Ro := Ro) (Fi := Fi) (P := P) hN hV (by rw [uH_ne (by omega)]; exact hSy) (by rw [uH_ne (by omega)]; exact hg) (by rw [uH_ne (by omega)]; exact hE) e1 (by rw [uH_ne (by omega)]; exact hR) e2 (by rw [uH_at]) hF1 hEe hr hF2 r hrl
      have eall : (args P r).all (fun q => decide (gZ Fi (gZ Ro (q : Int)) = 1)) = allF P fd Fi r := by
        unfold allF
        rw [Bool.eq_iff_iff, List.all_eq_true, List.all_eq_true]
        have hA := (args_ok hrl (v6 r hrl)).2
        constructor
        · intro h x hx
          have := h x hx
          rw [hfd x (hA x hx).2.1] at this
          exact this
        · intro h x hx
          rw [hfd x (hA x hx).2.1]
          exact h x hx
      rw [eall] at mm
      cases hal : allF P fd Fi r with
      | true =>
        rw [hal] at mm
        have C1 := c1_st (i := 1) (v := .int (iZ 1)) rfl hc
        have C2 := c1_st (i := 2) (v := .int (iZ (bZ al))) rfl C1
        have C3 := c1_st (i := 4) (v := .int (iZ ((r : Int) - 1))) rfl C2
        obtain ⟨Fi', cg', al', lv', z1, z2, z3, z4, z5, z6, z7⟩ := ih ((r : Int) - 1) (sZ Fi r 1) true al _ (by omega) (by omega) (hW.mark (by omega) hlt v6 hrl hs.1 hs.2 hal) C3 (by rw [lk_s C2, lk_s C1, lk_s hc]; exact l0) (by rw [lk_s C2, lk_s C1, lk_s hc]; rfl) (by rw [lk_s C2, lk_s C1]; rfl) (by rw [lk_s C2, lk_s C1, lk_s hc]; exact l3) (by rw [lk_s C2]; rfl)
        refine ⟨Fi', cg', al', lv', z1, z2, z3, z4, z5, z6, fun res k3 => Gx.run 80 mm (fun C mm => ?_) (z7 res k3)⟩
        have e9 : gZ (sZ Fi r 1) r = 1 := by rw [gZ_sZ (by omega) (by omega) (by omega), if_pos rfl]
        have h9 := hs.2
        cases cg <;> cases al <;> simp (disch := first | (refine c1_id ?_; assumption) | (refine c1_st rfl ?_; repeat (first | assumption | refine c1_st rfl ?_)) | omega) [nx_l, nx_r, nx_n, x_st, x_push, x_bin, x_div, x_un, x_dup, x_pop, x_dup2, x_goto, x_ifeq, x_ifne, x_iflt, x_ifge, x_ifgt, x_ifle, x_iceq, x_icne, x_iclt, x_icge, x_icgt, x_icle, x_ifnull, x_ifnonnull, x_ldi, x_lda, x_sti, x_sta, x_iinc, x_gf, x_pf, x_ald, x_ast, x_aln, x_len, x_cl_, x_cv, x_cs, x_rc, x_r0, x_isT, x_oi, x_rv, x_ri, x_ra, Value.category, t48_0, t48_1, t48_2, t48_3, t48_4, t48_7, t48_10, t48_11, t48_14, t48_15, t48_16, t48_17, t48_20, t48_21, t48_22, t48_25, t48_26, t48_27, t48_28, t48_31, t48_34, t48_35, t48_36, t48_37, t48_38, t48_39, t48_40, t48_41, t48_43, t48_46, t48_47, t48_50, t48_51, t48_54, t48_55, t48_56, t48_57, t48_58, t48_59, t48_62, t48_63, t48_64, t48_66, t48_68, t48_71, t48_72, t48_75, t48_77, t48_78, t48_80, t48_83, t48_84, t48_87, t48_89, t48_90, t48_93, t48_94, t48_97, t48_99, t48_100, t48_102, t48_105, t48_106, t48_107, t48_110, t48_111, t48_114, t48_116, t48_117, t48_120, t48_121, t48_124, t48_125, t48_126, t48_127, t48_130, t48_131, t48_134, t48_136, t48_137, t48_140, t48_141, t48_144, t48_145, t48_146, t48_149, t48_152, t48_155, t48_158, t48_159, lk_s, hp_get, hp_set, uH_at, uH_ne, uH_upd, uH_swap, iZ_add, iZ_sub, iZ_mul, iZ_neg, iZ_lt, iZ_le, iZ_eq, iZ_div, iZ_of, ix_Z, gZ_map, gZ_mapI, gZ_map', le_0, le_s, sZ_map, sZ_len, bZ_0, bZ_inj, bZ_t, bZ_f, nr_i, nr_0, nr_1, nr_b, ft_i, ft_b, ft_0, ft_1, zl_0, zl_1, zl_80, l0, l1, l2, l3, l4, hg, hR, hro, h9, e9, b0, mm, q1, bm, gF_len, gg_0, gg_1, gg_2, gg_3, gg_4, gg_5, gg_6, gg_7, gg_8, -List.filter_filter, -List.getElem?_map, -List.getD_eq_getElem?_getD]
      | false =>
        rw [hal] at mm
        have C1 := c1_st (i := 1) (v := .int (iZ (bZ cg))) rfl hc
        have C2 := c1_st (i := 2) (v := .int (iZ 0)) rfl C1
        have C3 := c1_st (i := 4) (v := .int (iZ ((r : Int) - 1))) rfl C2
        have hsame : sZ Fi r 0 = Fi := sZ_same hs.2 (by omega) (by omega)
        obtain ⟨Fi', cg', al', lv', z1, z2, z3, z4, z5, z6, z7⟩ := ih ((r : Int) - 1) Fi cg false _ (by omega) (by omega) (hW.none hrl hs.1 hs.2 hal) C3 (by rw [lk_s C2, lk_s C1, lk_s hc]; exact l0) (by rw [lk_s C2, lk_s C1, lk_s hc]; rfl) (by rw [lk_s C2, lk_s C1]; rfl) (by rw [lk_s C2, lk_s C1, lk_s hc]; exact l3) (by rw [lk_s C2]; rfl)
        refine ⟨Fi', cg', al', lv', z1, z2, z3, z4, z5, z6, fun res k3 => Gx.run 80 mm (fun C mm => ?_) (z7 res k3)⟩
        have h9 := hs.2
        cases cg <;> cases al <;> simp (disch := first | (refine c1_id ?_; assumption) | (refine c1_st rfl ?_; repeat (first | assumption | refine c1_st rfl ?_)) | omega) [nx_l, nx_r, nx_n, x_st, x_push, x_bin, x_div, x_un, x_dup, x_pop, x_dup2, x_goto, x_ifeq, x_ifne, x_iflt, x_ifge, x_ifgt, x_ifle, x_iceq, x_icne, x_iclt, x_icge, x_icgt, x_icle, x_ifnull, x_ifnonnull, x_ldi, x_lda, x_sti, x_sta, x_iinc, x_gf, x_pf, x_ald, x_ast, x_aln, x_len, x_cl_, x_cv, x_cs, x_rc, x_r0, x_isT, x_oi, x_rv, x_ri, x_ra, Value.category, t48_0, t48_1, t48_2, t48_3, t48_4, t48_7, t48_10, t48_11, t48_14, t48_15, t48_16, t48_17, t48_20, t48_21, t48_22, t48_25, t48_26, t48_27, t48_28, t48_31, t48_34, t48_35, t48_36, t48_37, t48_38, t48_39, t48_40, t48_41, t48_43, t48_46, t48_47, t48_50, t48_51, t48_54, t48_55, t48_56, t48_57, t48_58, t48_59, t48_62, t48_63, t48_64, t48_66, t48_68, t48_71, t48_72, t48_75, t48_77, t48_78, t48_80, t48_83, t48_84, t48_87, t48_89, t48_90, t48_93, t48_94, t48_97, t48_99, t48_100, t48_102, t48_105, t48_106, t48_107, t48_110, t48_111, t48_114, t48_116, t48_117, t48_120, t48_121, t48_124, t48_125, t48_126, t48_127, t48_130, t48_131, t48_134, t48_136, t48_137, t48_140, t48_141, t48_144, t48_145, t48_146, t48_149, t48_152, t48_155, t48_158, t48_159, lk_s, hp_get, hp_set, uH_at, uH_ne, uH_upd, uH_swap, iZ_add, iZ_sub, iZ_mul, iZ_neg, iZ_lt, iZ_le, iZ_eq, iZ_div, iZ_of, ix_Z, gZ_map, gZ_mapI, gZ_map', le_0, le_s, sZ_map, sZ_len, bZ_0, bZ_inj, bZ_t, bZ_f, nr_i, nr_0, nr_1, nr_b, ft_i, ft_b, ft_0, ft_1, zl_0, zl_1, zl_80, l0, l1, l2, l3, l4, hg, hR, hro, h9, hsame, b0, mm, q0, bm, gF_len, gg_0, gg_1, gg_2, gg_3, gg_4, gg_5, gg_6, gg_7, gg_8, -List.filter_filter, -List.getElem?_map, -List.getD_eq_getElem?_getD]
    · have C1 := c1_st (i := 4) (v := .int (iZ ((r : Int) - 1))) rfl hc
      obtain ⟨Fi', cg', al', lv', z1, z2, z3, z4, z5, z6, z7⟩ := ih ((r : Int) - 1) Fi cg al _ (by omega) (by omega) (hW.skip hs) C1 (by rw [lk_s hc]; exact l0) (by rw [lk_s hc]; exact l1) (by rw [lk_s hc]; exact l2) (by rw [lk_s hc]; exact l3) (by rw [lk_s hc]; rfl)
      refine ⟨Fi', cg', al', lv', z1, z2, z3, z4, z5, z6, fun res k3 => Gx.run 60 Cs.tt (fun C _ => ?_) (z7 res k3)⟩
      have hrb := hr (r : Int) (by omega) (by omega)
      by_cases h5 : gZ Ro r = (r : Int)
      · have h6 : gZ Fi r = 1 := by
          rcases hF2 (r : Int) with z | z
          · exact absurd ⟨by omega, z⟩ hs
          · exact z
        simp (disch := first | (refine c1_id ?_; assumption) | (refine c1_st rfl ?_; repeat (first | assumption | refine c1_st rfl ?_)) | omega) [nx_l, nx_r, nx_n, x_st, x_push, x_bin, x_div, x_un, x_dup, x_pop, x_dup2, x_goto, x_ifeq, x_ifne, x_iflt, x_ifge, x_ifgt, x_ifle, x_iceq, x_icne, x_iclt, x_icge, x_icgt, x_icle, x_ifnull, x_ifnonnull, x_ldi, x_lda, x_sti, x_sta, x_iinc, x_gf, x_pf, x_ald, x_ast, x_aln, x_len, x_cl_, x_cv, x_cs, x_rc, x_r0, x_isT, x_oi, x_rv, x_ri, x_ra, Value.category, t48_0, t48_1, t48_2, t48_3, t48_4, t48_7, t48_10, t48_11, t48_14, t48_15, t48_16, t48_17, t48_20, t48_21, t48_22, t48_25, t48_26, t48_27, t48_28, t48_31, t48_34, t48_35, t48_36, t48_37, t48_38, t48_39, t48_40, t48_41, t48_43, t48_46, t48_47, t48_50, t48_51, t48_54, t48_55, t48_56, t48_57, t48_58, t48_59, t48_62, t48_63, t48_64, t48_66, t48_68, t48_71, t48_72, t48_75, t48_77, t48_78, t48_80, t48_83, t48_84, t48_87, t48_89, t48_90, t48_93, t48_94, t48_97, t48_99, t48_100, t48_102, t48_105, t48_106, t48_107, t48_110, t48_111, t48_114, t48_116, t48_117, t48_120, t48_121, t48_124, t48_125, t48_126, t48_127, t48_130, t48_131, t48_134, t48_136, t48_137, t48_140, t48_141, t48_144, t48_145, t48_146, t48_149, t48_152, t48_155, t48_158, t48_159, lk_s, hp_get, hp_set, uH_at, uH_ne, uH_upd, uH_swap, iZ_add, iZ_sub, iZ_mul, iZ_neg, iZ_lt, iZ_le, iZ_eq, iZ_div, iZ_of, ix_Z, gZ_map, gZ_mapI, gZ_map', le_0, le_s, sZ_map, sZ_len, bZ_0, bZ_inj, bZ_t, bZ_f, nr_i, nr_0, nr_1, nr_b, ft_i, ft_b, ft_0, ft_1, zl_0, zl_1, zl_80, l0, l1, l2, l3, l4, hg, hR, h5, h6, b0, bm, gF_len, gg_0, gg_1, gg_2, gg_3, gg_4, gg_5, gg_6, gg_7, gg_8, -List.filter_filter, -List.getElem?_map, -List.getD_eq_getElem?_getD]
      · simp (disch := first | (refine c1_id ?_; assumption) | (refine c1_st rfl ?_; repeat (first | assumption | refine c1_st rfl ?_)) | omega) [nx_l, nx_r, nx_n, x_st, x_push, x_bin, x_div, x_un, x_dup, x_pop, x_dup2, x_goto, x_ifeq, x_ifne, x_iflt, x_ifge, x_ifgt, x_ifle, x_iceq, x_icne, x_iclt, x_icge, x_icgt, x_icle, x_ifnull, x_ifnonnull, x_ldi, x_lda, x_sti, x_sta, x_iinc, x_gf, x_pf, x_ald, x_ast, x_aln, x_len, x_cl_, x_cv, x_cs, x_rc, x_r0, x_isT, x_oi, x_rv, x_ri, x_ra, Value.category, t48_0, t48_1, t48_2, t48_3, t48_4, t48_7, t48_10, t48_11, t48_14, t48_15, t48_16, t48_17, t48_20, t48_21, t48_22, t48_25, t48_26, t48_27, t48_28, t48_31, t48_34, t48_35, t48_36, t48_37, t48_38, t48_39, t48_40, t48_41, t48_43, t48_46, t48_47, t48_50, t48_51, t48_54, t48_55, t48_56, t48_57, t48_58, t48_59, t48_62, t48_63, t48_64, t48_66, t48_68, t48_71, t48_72, t48_75, t48_77, t48_78, t48_80, t48_83, t48_84, t48_87, t48_89, t48_90, t48_93, t48_94, t48_97, t48_99, t48_100, t48_102, t48_105, t48_106, t48_107, t48_110, t48_111, t48_114, t48_116, t48_117, t48_120, t48_121, t48_124, t48_125, t48_126, t48_127, t48_130, t48_131, t48_134, t48_136, t48_137, t48_140, t48_141, t48_144, t48_145, t48_146, t48_149, t48_152, t48_155, t48_158, t48_159, lk_s, hp_get, hp_set, uH_at, uH_ne, uH_upd, uH_swap, iZ_add, iZ_sub, iZ_mul, iZ_neg, iZ_lt, iZ_le, iZ_eq, iZ_div, iZ_of, ix_Z, gZ_map, gZ_mapI, gZ_map', le_0, le_s, sZ_map, sZ_len, bZ_0, bZ_inj, bZ_t, bZ_f, nr_i, nr_0, nr_1, nr_b, ft_i, ft_b, ft_0, ft_1, zl_0, zl_1, zl_80, l0, l1, l2, l3, l4, hg, hR, h5, b0, bm, gF_len, gg_0, gg_1, gg_2, gg_3, gg_4, gg_5, gg_6, gg_7, gg_8, -List.filter_filter, -List.getElem?_map, -List.getD_eq_getElem?_getD]
end AF
