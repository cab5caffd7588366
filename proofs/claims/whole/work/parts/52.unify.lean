/-! the reference: unify -/

def ub (Bd : List Int) : Nat := (List.range 52).countP (fun i : Nat => decide (gZ Bd (i : Int) < 0))
theorem count_lt {f g : Nat → Bool} {s : Nat} : ∀ {n : Nat}, s < n → (∀ i, i < n → g i = true → f i = true) → f s = true → g s = false → (List.range n).countP g < (List.range n).countP f
  | 0, h, _, _, _ => absurd h (Nat.not_lt_zero _)
  | n + 1, h, h1, h2, h3 => by
    rw [List.range_succ, List.countP_append, List.countP_append]
    by_cases e : s = n
    · subst e
      have : (List.range s).countP g ≤ (List.range s).countP f := List.countP_mono_left (fun i hi => h1 i (by have := List.mem_range.mp hi; omega))
      have e1 : [s].countP g = 0 := by simp [h3]
      have e2 : [s].countP f = 1 := by simp [h2]
      omega
    · have ih := count_lt (n := n) (by omega) (fun i hi => h1 i (by omega)) h2 h3
      have : [n].countP g ≤ [n].countP f := List.countP_mono_left (fun i hi => by
        rw [List.mem_singleton] at hi
        subst hi
        exact h1 i (by omega))
      omega
theorem ub_set {Bd : List Int} {s q : Int} (hl : Bd.length = 52) (h0 : 0 ≤ s) (h1 : s < 52) (hs : gZ Bd s < 0) (hq : 0 ≤ q) : ub (sZ Bd s q) < ub Bd := by
  refine count_lt (s := s.toNat) (by omega) (fun i hi g => ?_) ?_ ?_
  · have g' := of_decide_eq_true g
    rw [gZ_sZ h0 (by omega) (by omega)] at g'
    split at g'
    · omega
    · exact decide_eq_true g'
  · rw [show ((s.toNat : Nat) : Int) = s by omega]
    exact decide_eq_true hs
  · rw [show ((s.toNat : Nat) : Int) = s by omega, gZ_sZ h0 (by omega) h0, if_pos rfl]
    exact decide_eq_false (by omega)
theorem for1_ne {s : Int} {t : List Int} (h : t ≠ []) : ∀ v, v < 99 → for1 s t v ≠ [] := fun v _ => by
  unfold for1
  split
  · exact h
  · simp
theorem BdOK.bind {S Bd : List Int} {ρ : Int → List Int} {s q : Int} (h : BdOK S Bd ρ) (h0 : 0 ≤ s) (h1 : s < 52) (hb : gZ Bd s < 0) (oq : okp S q) (ho : ¬ s ∈ sub ρ (tm S q.toNat)) : BdOK S (sZ Bd s q) (fun v => sub (for1 s (mk_ :: sub ρ (tm S q.toNat))) (ρ v)) := by
  obtain ⟨b1, b2, b3, b4⟩ := h
  refine ⟨by rw [sZ_len]; exact b1, fun v v0 v1 => ?_, ?_, fun v e => ?_⟩
  · rw [gZ_sZ h0 (by omega) v0]
    split
    · exact ⟨by have := oq.1; omega, fun _ => oq⟩
    · exact b2 v v0 v1
  · have e : bdf (sZ Bd s q) = bset (bdf Bd) s ((q.toNat : Nat) : Int) := by
      funext v
      have hq := oq.1
      show (if 0 ≤ v ∧ v < 52 then gZ (sZ Bd s q) v else -1) = if v = s then ((q.toNat : Nat) : Int) else (if 0 ≤ v ∧ v < 52 then gZ Bd v else -1)
      by_cases hv : 0 ≤ v ∧ v < 52
      · rw [if_pos hv, if_pos hv, gZ_sZ h0 (by omega) hv.1]
        by_cases e : s = v
        · rw [if_pos e, if_pos e.symm]
          omega
        · rw [if_neg e, if_neg (Ne.symm e)]
      · rw [if_neg hv, if_neg hv, if_neg (fun e => hv (by omega))]
    rw [e]
    exact b3.bind (by omega) (by rw [bdf_in h0 h1]; exact hb) ho
  · have := sub_len (for1_ne (s := s) (t := mk_ :: sub ρ (tm S q.toNat)) (by simp)) (ρ v)
    have e' : sub (for1 s (mk_ :: sub ρ (tm S q.toNat))) (ρ v) = [] := e
    rw [e'] at this
    exact b4 v (List.eq_nil_of_length_eq_zero (by simpa using this))
theorem tm_small {S : List Int} (hS : SOK S) (p : Nat) : ∀ s ∈ tm S p, s < 1000000 := fun s hs => by
  obtain ⟨b, e⟩ := tk_pre (S.drop p) 1
  have e' : S.drop p = tm S p ++ b := e
  have hm : s ∈ S := List.mem_of_mem_drop (i := p) (by rw [e']; exact List.mem_append_left _ hs)
  obtain ⟨i, hi, rfl⟩ := List.getElem_of_mem hm
  have := (hS.2.1 i).2
  unfold gZ at this
  rw [List.getD_eq_getElem?_getD, Int.toNat_natCast, List.getElem?_eq_getElem hi] at this
  have this' : S[i] < 100000 := this
  omega
theorem sig_led {S Bd : List Int} {ρ : Int → List Int} (hS : SOK S) (h : BdOK S Bd ρ) {x : Int} (hx : okp S x) {k : Nat} (hk : (sub ρ (tm S x.toNat)).length ≤ k) : sub (sgm ρ) (tm S x.toNat) = sub (sgm ρ) (tm S (ld S (bdf Bd) k x.toNat)) ∧ ¬ (pz S (ld S (bdf Bd) k x.toNat) < 99 ∧ 0 ≤ bdf Bd (pz S (ld S (bdf Bd) k x.toNat))) := by
  have hl := hS.1
  have hlt := okp_lt hx
  have h0 := hx.1
  obtain ⟨e1, e2, e3⟩ := ld_end h.2.2.1 (h.bl hS) k x.toNat (by omega) hk
  rw [sgm_sub (tm_small hS _), sgm_sub (tm_small hS _)] at e3
  exact ⟨e3.symm, e2⟩
section UN
variable {w : Nat → xC} {N : Nat} {m : Nat → Int} {S : List Int}
def UG (d : Nat) (w : Nat → xC) (N : Nat) (S a0 b0 Bd Lf Rg St En : List Int) (lv : xL) : Prop := ∃ (Bd' Lf' Rg' St' En' : List Int) (b : Bool), Bd'.length = 52 ∧ Lf'.length = 400 ∧ Rg'.length = 400 ∧ St'.length = 400 ∧ En'.length = 400 ∧ Gx q_k113 (d + 3) 16 (lv, [], unH w N Bd Lf Rg St En) (some (.int (iZ (bZ b))), unH w N Bd' Lf' Rg' St' En') ∧ (b = true → ∃ ρ', BdOK S Bd' ρ' ∧ Mg (sgm ρ') a0 b0) ∧ (b = false → ∀ θ, Tσ θ → sub θ a0 ≠ sub θ b0)
def UP (d : Nat) (w : Nat → xC) (N : Nat) (S a0 b0 : List Int) (c n : Nat) : Prop := ∀ (Bd Lf Rg St En : List Int) (ρ : Int → List Int) (G : List Nat) (T : Int) (lv : xL), BdOK S Bd ρ → Lf.length = 400 → Rg.length = 400 → St.length = 400 → En.length = 400 → ub Bd ≤ c → sm ρ S Lf G.length ≤ n → UI a0 b0 (sgm ρ) (prs S Lf Rg G.length) → SK ρ S Lf G → (∀ i : Nat, i < G.length → okp S (gZ Lf i) ∧ okp S (gZ Rg i)) → T = G.length → c1 lv → x_lk lv 0 = some (.ref 30) → x_lk lv 3 = some (.int (iZ T)) → UG d w N S a0 b0 Bd Lf Rg St En lv
set_option maxHeartbeats 8000000 in
theorem un_key (d : Nat) (hN : 53 ≤ N) (hm : w 27 = .inr (8, mF m)) (hW : w 45 = cI 0 S) (hS : SOK S) (a0 b0 : List Int) (c : Nat) (IH : ∀ c', c' < c → ∀ n, UP d w N S a0 b0 c' n) : ∀ n, UP d w N S a0 b0 c n := by
  have hl := hS.1
  have fin0 : ∀ (Bd Lf Rg St En : List Int) (ρ : Int → List Int) (lv : xL), BdOK S Bd ρ → Lf.length = 400 → Rg.length = 400 → St.length = 400 → En.length = 400 → UI a0 b0 (sgm ρ) [] → c1 lv → x_lk lv 0 = some (.ref 30) → x_lk lv 3 = some (.int (iZ 0)) → UG d w N S a0 b0 Bd Lf Rg St En lv := by
    intro Bd Lf Rg St En ρ lv hB h1 h2 h3 h4 hU hc l0 l3
    refine ⟨Bd, Lf, Rg, St, En, true, hB.1, h1, h2, h3, h4, Gx.fin 20 Cs.tt (fun C _ => ?_), fun _ => ⟨ρ, hB, hU.fin⟩, fun e => by cases e⟩
    simp (disch := first | (refine c1_id ?_; assumption) | (refine c1_st rfl ?_; repeat (first | assumption | refine c1_st rfl ?_)) | omega) [nx_l, nx_r, nx_n, x_st, x_push, x_bin, x_div, x_un, x_dup, x_pop, x_dup2, x_goto, x_ifeq, x_ifne, x_iflt, x_ifge, x_ifgt, x_ifle, x_iceq, x_icne, x_iclt, x_icge, x_icgt, x_icle, x_ifnull, x_ifnonnull, x_ldi, x_lda, x_sti, x_sta, x_iinc, x_gf, x_pf, x_ald, x_ast, x_aln, x_len, x_cl_, x_cv, x_cs, x_rc, x_r0, x_isT, x_oi, x_rv, x_ri, x_ra, Value.category, t113_0, t113_1, t113_2, t113_3, t113_6, t113_7, t113_8, t113_9, t113_10, t113_13, t113_14, t113_15, t113_16, t113_17, t113_20, t113_23, t113_24, t113_25, t113_28, t113_29, t113_30, t113_33, t113_35, t113_36, t113_37, t113_40, t113_41, t113_42, t113_45, t113_47, t113_48, t113_51, t113_53, t113_54, t113_56, t113_57, t113_60, t113_62, t113_63, t113_65, t113_67, t113_69, t113_72, t113_74, t113_76, t113_79, t113_80, t113_82, t113_84, t113_87, t113_90, t113_91, t113_92, t113_93, t113_96, t113_98, t113_100, t113_101, t113_104, t113_106, t113_108, t113_111, t113_113, t113_115, t113_118, t113_119, t113_121, t113_123, t113_126, t113_129, t113_130, t113_131, t113_132, t113_135, t113_137, t113_139, t113_140, t113_143, t113_145, t113_147, t113_150, t113_151, t113_152, t113_154, t113_156, t113_159, t113_161, t113_162, t113_163, t113_165, t113_167, t113_168, t113_169, t113_171, t113_172, t113_174, t113_176, t113_178, t113_181, t113_184, t113_185, t113_188, t113_189, t113_191, t113_192, t113_193, t113_196, t113_197, t113_199, t113_200, t113_203, t113_204, t113_206, t113_209, t113_211, t113_212, t113_214, t113_217, t113_219, t113_222, t113_225, t113_228, t113_229, lk_s, hp_get, hp_set, uH_at, uH_ne, uH_upd, uH_swap, iZ_add, iZ_sub, iZ_mul, iZ_neg, iZ_lt, iZ_le, iZ_eq, iZ_div, iZ_of, ix_Z, gZ_map, gZ_mapI, gZ_map', le_0, le_s, sZ_map, sZ_len, bZ_0, bZ_inj, bZ_t, bZ_f, nr_i, nr_0, nr_1, nr_b, ft_i, ft_b, ft_0, ft_1, zl_0, zl_1, zl_99, mF_len, mg_0, mg_1, mg_2, mg_3, mg_4, mg_5, mg_6, mg_7, mg_8, mg_9, mg_10, mg_11, mg_12, mg_13, mg_14, mg_15, mg_16, mg_17, mg_18, mg_19, mg_20, mg_21, mg_22, mg_23, mg_24, mg_25, mg_26, mg_27, mg_28, mg_29, mg_30, mg_31, mg_32, mg_33, mg_34, mg_35, mg_36, mg_37, mg_38, ms_0, ms_1, ms_2, ms_13, ms_14, ms_15, ms_16, ms_21, ms_22, ms_23, ms_24, ms_28, ms_36, ms_37, ms_38, st_at, st_ne, st_st, st_swap, l0, l3, -List.filter_filter, -List.getElem?_map, -List.getD_eq_getElem?_getD]
  intro n
  induction n with
  | zero =>
    intro Bd Lf Rg St En ρ G T lv hB h1 h2 h3 h4 hu hsm hU hK hO hT hc l0 l3
    cases G with
    | nil =>
      obtain rfl : T = 0 := hT
      exact fin0 Bd Lf Rg St En ρ lv hB h1 h2 h3 h4 hU hc l0 l3
    | cons g G =>
      exfalso
      have ho := (hO G.length (Nat.lt_succ_self _)).1
      have hne := List.length_pos_iff.mpr (Ts_ne (n := 0) ho.2.2)
      have := sub_len (fun v _ => hB.2.2.2 v) (tm S (gZ Lf G.length).toNat)
      have e : sm ρ S Lf (g :: G).length = (sub ρ (tm S (gZ Lf G.length).toNat)).length + sm ρ S Lf G.length := rfl
      omega
  | succ n ihn =>
    intro Bd Lf Rg St En ρ G T lv hB h1 h2 h3 h4 hu hsm hU hK hO hT hc l0 l3
    cases G with
    | nil =>
      obtain rfl : T = 0 := hT
      exact fin0 Bd Lf Rg St En ρ lv hB h1 h2 h3 h4 hU hc l0 l3
    | cons g G =>
      have hlen := SK_len hK
      have eT : T - 1 = (G.length : Int) := by
        rw [hT, List.length_cons]
        omega
      have hlen2 : G.length + 1 ≤ 265 := hlen
      obtain ⟨o1, o2⟩ := hO G.length (Nat.lt_succ_self _)
      rw [← eT] at o1 o2
      have op := ld_ok hB hS (sub ρ (tm S (gZ Lf (T - 1)).toNat)).length (gZ Lf (T - 1)) o1
      have oq := ld_ok hB hS (sub ρ (tm S (gZ Rg (T - 1)).toNat)).length (gZ Rg (T - 1)) o2
      obtain ⟨ep, np⟩ := sig_led hS hB o1 (Nat.le_refl _)
      obtain ⟨eq, nq⟩ := sig_led hS hB o2 (Nat.le_refl _)
      have hled : ∀ r, Bel ρ S r (gZ Lf (T - 1)).toNat → Bel ρ S r (ld S (bdf Bd) (sub ρ (tm S (gZ Lf (T - 1)).toNat)).length (gZ Lf (T - 1)).toNat) := fun r hr => Bel.led hB.2.2.1 (hB.bl hS) (by have := okp_lt o1; have := o1.1; omega) hr
      obtain ⟨ms, etr⟩ := ld_tr hB.2.2.1 (hB.bl hS) (sub ρ (tm S (gZ Lf (T - 1)).toNat)).length (gZ Lf (T - 1)).toNat (by have := okp_lt o1; have := o1.1; omega)
      obtain ⟨lv1, g1, g2, g3, g4, g5, g6, g7, cut⟩ := l113_16 d hN hm hW hS hB Lf Rg St En h1 h2 T (by omega) (by omega) o1 o2 lv hc l0 l3 _ _ rfl rfl op oq
      have hU' : UI a0 b0 (sgm ρ) ((tm S (gZ Lf (T - 1)).toNat, tm S (gZ Rg (T - 1)).toNat) :: prs S Lf Rg G.length) := by
        rw [eT]
        exact hU
      have hsm' : (sub ρ (tm S (gZ Lf (T - 1)).toNat)).length + sm ρ S Lf G.length ≤ n + 1 := by
        rw [eT]
        exact hsm
      have hbel : g < 264 → Bel ρ S (g / 3) (gZ Lf (T - 1)).toNat := by
        rw [eT]
        exact hK.1
      generalize hpd : ld S (bdf Bd) (sub ρ (tm S (gZ Lf (T - 1)).toNat)).length (gZ Lf (T - 1)).toNat = p at *
      generalize hqd : ld S (bdf Bd) (sub ρ (tm S (gZ Rg (T - 1)).toNat)).length (gZ Rg (T - 1)).toNat = q at *
      have p88 := okp_lt op
      have q88 := okp_lt oq
      have Tp := op.2.2
      have Tq := oq.2.2
      rw [Int.toNat_natCast] at Tp Tq
      have sp := hS.2.1 p
      have sq := hS.2.1 q
      have ezp : gZ S p = pz S p := by rw [gZ_pz, Int.toNat_natCast]
      have ezq : gZ S q = pz S q := by rw [gZ_pz, Int.toNat_natCast]
      have hx := List.length_pos_iff.mpr (Ts_ne (n := 0) o1.2.2)
      have hx2 := sub_len (fun v _ => hB.2.2.2 v) (tm S (gZ Lf (T - 1)).toNat)
      by_cases c1v : gZ S p < 99 ∧ gZ S p ≠ gZ S q
      · -- a variable on the left
        have s52 := hS.2.2 p c1v.1
        have sun : gZ Bd (gZ S p) < 0 := by
          refine Int.lt_of_not_ge (fun z => np ⟨by rw [← ezp]; exact c1v.1, ?_⟩)
          rw [← ezp, bdf_in sp.1 s52]
          exact z
        have etp : tm S p = [gZ S p] := by
          rw [ezp]
          exact tm_v (by omega) (by rw [← ezp]; exact c1v.1)
        have hσ : sgm ρ (gZ S p) = [gZ S p] := by
          show er (ρ (gZ S p)) = _
          rw [(hB.2.2.1 _ c1v.1).1 (by rw [bdf_in sp.1 s52]; exact sun)]
          exact er_ne (by unfold mk_; omega)
        have ea : sub (sgm ρ) (tm S (gZ Lf (T - 1)).toNat) = [gZ S p] := by rw [ep, etp, sub_v c1v.1, hσ]
        obtain ⟨St1, En1, k1, k2, mm⟩ := m112 d (w := unW w Bd Lf Rg St En) (m := m) (S := S) (Bd := Bd) (St := St) (En := En) (ρ := ρ) (N := N) hN (unW_m hm _ _ _ _ _) (unW_S hW _ _ _ _ _) (unW_B w _ _ _ _ _) (by unfold unW; rw [uH_ne (by omega), uH_at]) (by unfold unW; rw [uH_at]) h3 h4 (by omega) hB.1 hS.2.1 hS.2.2 (hB.lt hS) (fun v v0 v1 v2 => ((hB.2.1 v v0 v1).2 v2).2.2) hB.2.2.1 hB.2.2.2 (gZ S p) sp.1 s52 sun q (by omega) (by omega) (by rw [Int.toNat_natCast]; exact Tq)
        rw [Int.toNat_natCast] at mm
        have hocc : gZ S p ∈ sub ρ (tm S q) ↔ gZ S p ∈ sub (sgm ρ) (tm S (gZ Rg (T - 1)).toNat) := by
          rw [eq, ← sgm_sub (tm_small hS q), er_mem (by unfold mk_; omega)]
        have b1 : ¬ 99 ≤ gZ S p := by omega
        have b2 : ¬ gZ S p = gZ S q := c1v.2
        by_cases hoc : gZ S p ∈ sub ρ (tm S q)
        · have hde : decide (gZ S p ∈ sub ρ (tm S q)) = true := decide_eq_true hoc
          rw [hde] at mm
          refine ⟨Bd, Lf, Rg, St1, En1, false, hB.1, h1, h2, k1, k2, cut _ (Gx.fin 80 mm (fun C mm => ?_)), (fun e => by cases e), fun _ => hU'.occ c1v.1 ea (hocc.mp hoc) (fun e9 => ?_)⟩
          · unfold unW at mm
            simp (disch := first | (refine c1_id ?_; assumption) | (refine c1_st rfl ?_; repeat (first | assumption | refine c1_st rfl ?_)) | omega) [nx_l, nx_r, nx_n, x_st, x_push, x_bin, x_div, x_un, x_dup, x_pop, x_dup2, x_goto, x_ifeq, x_ifne, x_iflt, x_ifge, x_ifgt, x_ifle, x_iceq, x_icne, x_iclt, x_icge, x_icgt, x_icle, x_ifnull, x_ifnonnull, x_ldi, x_lda, x_sti, x_sta, x_iinc, x_gf, x_pf, x_ald, x_ast, x_aln, x_len, x_cl_, x_cv, x_cs, x_rc, x_r0, x_isT, x_oi, x_rv, x_ri, x_ra, Value.category, t113_0, t113_1, t113_2, t113_3, t113_6, t113_7, t113_8, t113_9, t113_10, t113_13, t113_14, t113_15, t113_16, t113_17, t113_20, t113_23, t113_24, t113_25, t113_28, t113_29, t113_30, t113_33, t113_35, t113_36, t113_37, t113_40, t113_41, t113_42, t113_45, t113_47, t113_48, t113_51, t113_53, t113_54, t113_56, t113_57, t113_60, t113_62, t113_63, t113_65, t113_67, t113_69, t113_72, t113_74, t113_76, t113_79, t113_80, t113_82, t113_84, t113_87, t113_90, t113_91, t113_92, t113_93, t113_96, t113_98, t113_100, t113_101, t113_104, t113_106, t113_108, t113_111, t113_113, t113_115, t113_118, t113_119, t113_121, t113_123, t113_126, t113_129, t113_130, t113_131, t113_132, t113_135, t113_137, t113_139, t113_140, t113_143, t113_145, t113_147, t113_150, t113_151, t113_152, t113_154, t113_156, t113_159, t113_161, t113_162, t113_163, t113_165, t113_167, t113_168, t113_169, t113_171, t113_172, t113_174, t113_176, t113_178, t113_181, t113_184, t113_185, t113_188, t113_189, t113_191, t113_192, t113_193, t113_196, t113_197, t113_199, t113_200, t113_203, t113_204, t113_206, t113_209, t113_211, t113_212, t113_214, t113_217, t113_219, t113_222, t113_225, t113_228, t113_229, lk_s, hp_get, hp_set, uH_at, uH_ne, uH_upd, uH_swap, iZ_add, iZ_sub, iZ_mul, iZ_neg, iZ_lt, iZ_le, iZ_eq, iZ_div, iZ_of, ix_Z, gZ_map, gZ_mapI, gZ_map', le_0, le_s, sZ_map, sZ_len, bZ_0, bZ_inj, bZ_t, bZ_f, nr_i, nr_0, nr_1, nr_b, ft_i, ft_b, ft_0, ft_1, zl_0, zl_1, zl_99, mF_len, mg_0, mg_1, mg_2, mg_3, mg_4, mg_5, mg_6, mg_7, mg_8, mg_9, mg_10, mg_11, mg_12, mg_13, mg_14, mg_15, mg_16, mg_17, mg_18, mg_19, mg_20, mg_21, mg_22, mg_23, mg_24, mg_25, mg_26, mg_27, mg_28, mg_29, mg_30, mg_31, mg_32, mg_33, mg_34, mg_35, mg_36, mg_37, mg_38, ms_0, ms_1, ms_2, ms_13, ms_14, ms_15, ms_16, ms_21, ms_22, ms_23, ms_24, ms_28, ms_36, ms_37, ms_38, st_at, st_ne, st_st, st_swap, unH, hm, g2, g3, g4, g5, g6, g7, b1, b2, mm, -List.filter_filter, -List.getElem?_map, -List.getD_eq_getElem?_getD]
          · rw [eq] at e9
            by_cases hvq : gZ S q < 99
            · have s52q := hS.2.2 q hvq
              have qun : gZ Bd (gZ S q) < 0 := by
                refine Int.lt_of_not_ge (fun z => nq ⟨by rw [← ezq]; exact hvq, ?_⟩)
                rw [← ezq, bdf_in sq.1 s52q]
                exact z
              have etq : tm S q = [gZ S q] := by
                rw [ezq]
                exact tm_v (by omega) (by rw [← ezq]; exact hvq)
              rw [etq, sub_v hvq] at e9
              have hσq : sgm ρ (gZ S q) = [gZ S q] := by
                show er (ρ (gZ S q)) = _
                rw [(hB.2.2.1 _ hvq).1 (by rw [bdf_in sq.1 s52q]; exact qun)]
                exact er_ne (by unfold mk_; omega)
              rw [hσq] at e9
              exact b2 (List.cons.inj e9).1.symm
            · rw [tm_eq (by omega), sub_cons, if_neg (by rw [← ezq]; exact hvq)] at e9
              have := (List.cons.inj e9).1
              omega
        · have hde : decide (gZ S p ∈ sub ρ (tm S q)) = false := decide_eq_false hoc
          rw [hde] at mm
          have hB2 := hB.bind sp.1 s52 sun oq (by rw [Int.toNat_natCast]; exact hoc)
          rw [Int.toNat_natCast] at hB2
          have hT1 : Tσ (sgm ρ) := hU'.1
          have hU2 := hU'.bind c1v.1 ea hσ (fun z => hoc (hocc.mpr z)) (Ts_sub hT1 o2.2.2)
          rw [eq, ← sgm_bind (ρ := ρ) (s := gZ S p) (tm_small hS q) c1v.1] at hU2
          have hu2 := ub_set (q := (q : Int)) hB.1 sp.1 s52 sun (by omega)
          obtain ⟨Bd', Lf', Rg', St', En', b, r1, r2, r3, r4, r5, r6, r7, r8⟩ := IH _ (Nat.lt_of_lt_of_le hu2 hu) _ (sZ Bd (gZ S p) q) Lf Rg St1 En1 _ G (T - 1) lv1 hB2 h1 h2 k1 k2 (Nat.le_refl _) (Nat.le_refl _) hU2 (SK_mono (for1_ne (by simp)) hK.2.2.2) (fun i hi => hO i (Nat.lt_succ_of_lt hi)) eT g1 g2 g3
          refine ⟨Bd', Lf', Rg', St', En', b, r1, r2, r3, r4, r5, cut _ (Gx.run 80 mm (fun C mm => ?_) r6), r7, r8⟩
          unfold unW at mm
          have hbl := hB.1
          simp (disch := first | (refine c1_id ?_; assumption) | (refine c1_st rfl ?_; repeat (first | assumption | refine c1_st rfl ?_)) | omega) [nx_l, nx_r, nx_n, x_st, x_push, x_bin, x_div, x_un, x_dup, x_pop, x_dup2, x_goto, x_ifeq, x_ifne, x_iflt, x_ifge, x_ifgt, x_ifle, x_iceq, x_icne, x_iclt, x_icge, x_icgt, x_icle, x_ifnull, x_ifnonnull, x_ldi, x_lda, x_sti, x_sta, x_iinc, x_gf, x_pf, x_ald, x_ast, x_aln, x_len, x_cl_, x_cv, x_cs, x_rc, x_r0, x_isT, x_oi, x_rv, x_ri, x_ra, Value.category, t113_0, t113_1, t113_2, t113_3, t113_6, t113_7, t113_8, t113_9, t113_10, t113_13, t113_14, t113_15, t113_16, t113_17, t113_20, t113_23, t113_24, t113_25, t113_28, t113_29, t113_30, t113_33, t113_35, t113_36, t113_37, t113_40, t113_41, t113_42, t113_45, t113_47, t113_48, t113_51, t113_53, t113_54, t113_56, t113_57, t113_60, t113_62, t113_63, t113_65, t113_67, t113_69, t113_72, t113_74, t113_76, t113_79, t113_80, t113_82, t113_84, t113_87, t113_90, t113_91, t113_92, t113_93, t113_96, t113_98, t113_100, t113_101, t113_104, t113_106, t113_108, t113_111, t113_113, t113_115, t113_118, t113_119, t113_121, t113_123, t113_126, t113_129, t113_130, t113_131, t113_132, t113_135, t113_137, t113_139, t113_140, t113_143, t113_145, t113_147, t113_150, t113_151, t113_152, t113_154, t113_156, t113_159, t113_161, t113_162, t113_163, t113_165, t113_167, t113_168, t113_169, t113_171, t113_172, t113_174, t113_176, t113_178, t113_181, t113_184, t113_185, t113_188, t113_189, t113_191, t113_192, t113_193, t113_196, t113_197, t113_199, t113_200, t113_203, t113_204, t113_206, t113_209, t113_211, t113_212, t113_214, t113_217, t113_219, t113_222, t113_225, t113_228, t113_229, lk_s, hp_get, hp_set, uH_at, uH_ne, uH_upd, uH_swap, iZ_add, iZ_sub, iZ_mul, iZ_neg, iZ_lt, iZ_le, iZ_eq, iZ_div, iZ_of, ix_Z, gZ_map, gZ_mapI, gZ_map', le_0, le_s, sZ_map, sZ_len, bZ_0, bZ_inj, bZ_t, bZ_f, nr_i, nr_0, nr_1, nr_b, ft_i, ft_b, ft_0, ft_1, zl_0, zl_1, zl_99, mF_len, mg_0, mg_1, mg_2, mg_3, mg_4, mg_5, mg_6, mg_7, mg_8, mg_9, mg_10, mg_11, mg_12, mg_13, mg_14, mg_15, mg_16, mg_17, mg_18, mg_19, mg_20, mg_21, mg_22, mg_23, mg_24, mg_25, mg_26, mg_27, mg_28, mg_29, mg_30, mg_31, mg_32, mg_33, mg_34, mg_35, mg_36, mg_37, mg_38, ms_0, ms_1, ms_2, ms_13, ms_14, ms_15, ms_16, ms_21, ms_22, ms_23, ms_24, ms_28, ms_36, ms_37, ms_38, st_at, st_ne, st_st, st_swap, unH, hm, g2, g3, g4, g5, g6, g7, b1, b2, mm, -List.filter_filter, -List.getElem?_map, -List.getD_eq_getElem?_getD]
      · by_cases c2v : gZ S q < 99 ∧ gZ S p ≠ gZ S q
        · -- a variable on the right
          have np9 : ¬ gZ S p < 99 := fun z => c1v ⟨z, c2v.2⟩
          have s52 := hS.2.2 q c2v.1
          have sun : gZ Bd (gZ S q) < 0 := by
            refine Int.lt_of_not_ge (fun z => nq ⟨by rw [← ezq]; exact c2v.1, ?_⟩)
            rw [← ezq, bdf_in sq.1 s52]
            exact z
          have etq : tm S q = [gZ S q] := by
            rw [ezq]
            exact tm_v (by omega) (by rw [← ezq]; exact c2v.1)
          have hσ : sgm ρ (gZ S q) = [gZ S q] := by
            show er (ρ (gZ S q)) = _
            rw [(hB.2.2.1 _ c2v.1).1 (by rw [bdf_in sq.1 s52]; exact sun)]
            exact er_ne (by unfold mk_; omega)
          have ea : sub (sgm ρ) (tm S (gZ Rg (T - 1)).toNat) = [gZ S q] := by rw [eq, etq, sub_v c2v.1, hσ]
          obtain ⟨St1, En1, k1, k2, mm⟩ := m112 d (w := unW w Bd Lf Rg St En) (m := m) (S := S) (Bd := Bd) (St := St) (En := En) (ρ := ρ) (N := N) hN (unW_m hm _ _ _ _ _) (unW_S hW _ _ _ _ _) (unW_B w _ _ _ _ _) (by unfold unW; rw [uH_ne (by omega), uH_at]) (by unfold unW; rw [uH_at]) h3 h4 (by omega) hB.1 hS.2.1 hS.2.2 (hB.lt hS) (fun v v0 v1 v2 => ((hB.2.1 v v0 v1).2 v2).2.2) hB.2.2.1 hB.2.2.2 (gZ S q) sq.1 s52 sun p (by omega) (by omega) (by rw [Int.toNat_natCast]; exact Tp)
          rw [Int.toNat_natCast] at mm
          have hocc : gZ S q ∈ sub ρ (tm S p) ↔ gZ S q ∈ sub (sgm ρ) (tm S (gZ Lf (T - 1)).toNat) := by
            rw [ep, ← sgm_sub (tm_small hS p), er_mem (by unfold mk_; omega)]
          have b0 : 99 ≤ gZ S p := by omega
          have b1 : ¬ 99 ≤ gZ S q := by omega
          have b2 : ¬ gZ S p = gZ S q := c2v.2
          by_cases hoc : gZ S q ∈ sub ρ (tm S p)
          · have hde : decide (gZ S q ∈ sub ρ (tm S p)) = true := decide_eq_true hoc
            rw [hde] at mm
            refine ⟨Bd, Lf, Rg, St1, En1, false, hB.1, h1, h2, k1, k2, cut _ (Gx.fin 80 mm (fun C mm => ?_)), (fun e => by cases e), fun _ => hU'.flip.occ c2v.1 ea (hocc.mp hoc) (fun e9 => ?_)⟩
            · unfold unW at mm
              simp (disch := first | (refine c1_id ?_; assumption) | (refine c1_st rfl ?_; repeat (first | assumption | refine c1_st rfl ?_)) | omega) [nx_l, nx_r, nx_n, x_st, x_push, x_bin, x_div, x_un, x_dup, x_pop, x_dup2, x_goto, x_ifeq, x_ifne, x_iflt, x_ifge, x_ifgt, x_ifle, x_iceq, x_icne, x_iclt, x_icge, x_icgt, x_icle, x_ifnull, x_ifnonnull, x_ldi, x_lda, x_sti, x_sta, x_iinc, x_gf, x_pf, x_ald, x_ast, x_aln, x_len, x_cl_, x_cv, x_cs, x_rc, x_r0, x_isT, x_oi, x_rv, x_ri, x_ra, Value.category, t113_0, t113_1, t113_2, t113_3, t113_6, t113_7, t113_8, t113_9, t113_10, t113_13, t113_14, t113_15, t113_16, t113_17, t113_20, t113_23, t113_24, t113_25, t113_28, t113_29, t113_30, t113_33, t113_35, t113_36, t113_37, t113_40, t113_41, t113_42, t113_45, t113_47, t113_48, t113_51, t113_53, t113_54, t113_56, t113_57, t113_60, t113_62, t113_63, t113_65, t113_67, t113_69, t113_72, t113_74, t113_76, t113_79, t113_80, t113_82, t113_84, t113_87, t113_90, t113_91, t113_92, t113_93, t113_96, t113_98, t113_100, t113_101, t113_104, t113_106, t113_108, t113_111, t113_113, t113_115, t113_118, t113_119, t113_121, t113_123, t113_126, t113_129, t113_130, t113_131, t113_132, t113_135, t113_137, t113_139, t113_140, t113_143, t113_145, t113_147, t113_150, t113_151, t113_152, t113_154, t113_156, t113_159, t113_161, t113_162, t113_163, t113_165, t113_167, t113_168, t113_169, t113_171, t113_172, t113_174, t113_176, t113_178, t113_181, t113_184, t113_185, t113_188, t113_189, t113_191, t113_192, t113_193, t113_196, t113_197, t113_199, t113_200, t113_203, t113_204, t113_206, t113_209, t113_211, t113_212, t113_214, t113_217, t113_219, t113_222, t113_225, t113_228, t113_229, lk_s, hp_get, hp_set, uH_at, uH_ne, uH_upd, uH_swap, iZ_add, iZ_sub, iZ_mul, iZ_neg, iZ_lt, iZ_le, iZ_eq, iZ_div, iZ_of, ix_Z, gZ_map, gZ_mapI, gZ_map', le_0, le_s, sZ_map, sZ_len, bZ_0, bZ_inj, bZ_t, bZ_f, nr_i, nr_0, nr_1, nr_b, ft_i, ft_b, ft_0, ft_1, zl_0, zl_1, zl_99, mF_len, mg_0, mg_1, mg_2, mg_3, mg_4, mg_5, mg_6, mg_7, mg_8, mg_9, mg_10, mg_11, mg_12, mg_13, mg_14, mg_15, mg_16, mg_17, mg_18, mg_19, mg_20, mg_21, mg_22, mg_23, mg_24, mg_25, mg_26, mg_27, mg_28, mg_29, mg_30, mg_31, mg_32, mg_33, mg_34, mg_35, mg_36, mg_37, mg_38, ms_0, ms_1, ms_2, ms_13, ms_14, ms_15, ms_16, ms_21, ms_22, ms_23, ms_24, ms_28, ms_36, ms_37, ms_38, st_at, st_ne, st_st, st_swap, unH, hm, g2, g3, g4, g5, g6, g7, b0, b1, b2, mm, -List.filter_filter, -List.getElem?_map, -List.getD_eq_getElem?_getD]
            · rw [ep, tm_eq (by omega), sub_cons, if_neg (by rw [← ezp]; exact np9)] at e9
              have := (List.cons.inj e9).1
              omega
          · have hde : decide (gZ S q ∈ sub ρ (tm S p)) = false := decide_eq_false hoc
            rw [hde] at mm
            have hB2 := hB.bind sq.1 s52 sun op (by rw [Int.toNat_natCast]; exact hoc)
            rw [Int.toNat_natCast] at hB2
            have hT1 : Tσ (sgm ρ) := hU'.1
            have hU2 := hU'.flip.bind c2v.1 ea hσ (fun z => hoc (hocc.mpr z)) (Ts_sub hT1 o1.2.2)
            rw [ep, ← sgm_bind (ρ := ρ) (s := gZ S q) (tm_small hS p) c2v.1] at hU2
            have hu2 := ub_set (q := (p : Int)) hB.1 sq.1 s52 sun (by omega)
            obtain ⟨Bd', Lf', Rg', St', En', b, r1, r2, r3, r4, r5, r6, r7, r8⟩ := IH _ (Nat.lt_of_lt_of_le hu2 hu) _ (sZ Bd (gZ S q) p) Lf Rg St1 En1 _ G (T - 1) lv1 hB2 h1 h2 k1 k2 (Nat.le_refl _) (Nat.le_refl _) hU2 (SK_mono (for1_ne (by simp)) hK.2.2.2) (fun i hi => hO i (Nat.lt_succ_of_lt hi)) eT g1 g2 g3
            refine ⟨Bd', Lf', Rg', St', En', b, r1, r2, r3, r4, r5, cut _ (Gx.run 80 mm (fun C mm => ?_) r6), r7, r8⟩
            unfold unW at mm
            have hbl := hB.1
            simp (disch := first | (refine c1_id ?_; assumption) | (refine c1_st rfl ?_; repeat (first | assumption | refine c1_st rfl ?_)) | omega) [nx_l, nx_r, nx_n, x_st, x_push, x_bin, x_div, x_un, x_dup, x_pop, x_dup2, x_goto, x_ifeq, x_ifne, x_iflt, x_ifge, x_ifgt, x_ifle, x_iceq, x_icne, x_iclt, x_icge, x_icgt, x_icle, x_ifnull, x_ifnonnull, x_ldi, x_lda, x_sti, x_sta, x_iinc, x_gf, x_pf, x_ald, x_ast, x_aln, x_len, x_cl_, x_cv, x_cs, x_rc, x_r0, x_isT, x_oi, x_rv, x_ri, x_ra, Value.category, t113_0, t113_1, t113_2, t113_3, t113_6, t113_7, t113_8, t113_9, t113_10, t113_13, t113_14, t113_15, t113_16, t113_17, t113_20, t113_23, t113_24, t113_25, t113_28, t113_29, t113_30, t113_33, t113_35, t113_36, t113_37, t113_40, t113_41, t113_42, t113_45, t113_47, t113_48, t113_51, t113_53, t113_54, t113_56, t113_57, t113_60, t113_62, t113_63, t113_65, t113_67, t113_69, t113_72, t113_74, t113_76, t113_79, t113_80, t113_82, t113_84, t113_87, t113_90, t113_91, t113_92, t113_93, t113_96, t113_98, t113_100, t113_101, t113_104, t113_106, t113_108, t113_111, t113_113, t113_115, t113_118, t113_119, t113_121, t113_123, t113_126, t113_129, t113_130, t113_131, t113_132, t113_135, t113_137, t113_139, t113_140, t113_143, t113_145, t113_147, t113_150, t113_151, t113_152, t113_154, t113_156, t113_159, t113_161, t113_162, t113_163, t113_165, t113_167, t113_168, t113_169, t113_171, t113_172, t113_174, t113_176, t113_178, t113_181, t113_184, t113_185, t113_188, t113_189, t113_191, t113_192, t113_193, t113_196, t113_197, t113_199, t113_200, t113_203, t113_204, t113_206, t113_209, t113_211, t113_212, t113_214, t113_217, t113_219, t113_222, t113_225, t113_228, t113_229, lk_s, hp_get, hp_set, uH_at, uH_ne, uH_upd, uH_swap, iZ_add, iZ_sub, iZ_mul, iZ_neg, iZ_lt, iZ_le, iZ_eq, iZ_div, iZ_of, ix_Z, gZ_map, gZ_mapI, gZ_map', le_0, le_s, sZ_map, sZ_len, bZ_0, bZ_inj, bZ_t, bZ_f, nr_i, nr_0, nr_1, nr_b, ft_i, ft_b, ft_0, ft_1, zl_0, zl_1, zl_99, mF_len, mg_0, mg_1, mg_2, mg_3, mg_4, mg_5, mg_6, mg_7, mg_8, mg_9, mg_10, mg_11, mg_12, mg_13, mg_14, mg_15, mg_16, mg_17, mg_18, mg_19, mg_20, mg_21, mg_22, mg_23, mg_24, mg_25, mg_26, mg_27, mg_28, mg_29, mg_30, mg_31, mg_32, mg_33, mg_34, mg_35, mg_36, mg_37, mg_38, ms_0, ms_1, ms_2, ms_13, ms_14, ms_15, ms_16, ms_21, ms_22, ms_23, ms_24, ms_28, ms_36, ms_37, ms_38, st_at, st_ne, st_st, st_swap, unH, hm, g2, g3, g4, g5, g6, g7, b0, b1, b2, mm, -List.filter_filter, -List.getElem?_map, -List.getD_eq_getElem?_getD]
        · by_cases hne : gZ S p = gZ S q
          · by_cases hvp : gZ S p < 99
            · -- one variable
              have hvq : gZ S q < 99 := by omega
              have etp : tm S p = [gZ S p] := by
                rw [ezp]
                exact tm_v (by omega) (by rw [← ezp]; exact hvp)
              have etq : tm S q = [gZ S q] := by
                rw [ezq]
                exact tm_v (by omega) (by rw [← ezq]; exact hvq)
              have hU2 := hU'.same (by rw [ep, eq, etp, etq, hne])
              obtain ⟨Bd', Lf', Rg', St', En', b, r1, r2, r3, r4, r5, r6, r7, r8⟩ := ihn Bd Lf Rg St En ρ G (T - 1) lv1 hB h1 h2 h3 h4 hu (by omega) hU2 hK.2.2.2 (fun i hi => hO i (Nat.lt_succ_of_lt hi)) eT g1 g2 g3
              refine ⟨Bd', Lf', Rg', St', En', b, r1, r2, r3, r4, r5, cut _ (Gx.run 80 Cs.tt (fun C _ => ?_) r6), r7, r8⟩
              have b1 : ¬ 99 ≤ gZ S q := by omega
              rw [hne] at g6
              simp (disch := first | (refine c1_id ?_; assumption) | (refine c1_st rfl ?_; repeat (first | assumption | refine c1_st rfl ?_)) | omega) [nx_l, nx_r, nx_n, x_st, x_push, x_bin, x_div, x_un, x_dup, x_pop, x_dup2, x_goto, x_ifeq, x_ifne, x_iflt, x_ifge, x_ifgt, x_ifle, x_iceq, x_icne, x_iclt, x_icge, x_icgt, x_icle, x_ifnull, x_ifnonnull, x_ldi, x_lda, x_sti, x_sta, x_iinc, x_gf, x_pf, x_ald, x_ast, x_aln, x_len, x_cl_, x_cv, x_cs, x_rc, x_r0, x_isT, x_oi, x_rv, x_ri, x_ra, Value.category, t113_0, t113_1, t113_2, t113_3, t113_6, t113_7, t113_8, t113_9, t113_10, t113_13, t113_14, t113_15, t113_16, t113_17, t113_20, t113_23, t113_24, t113_25, t113_28, t113_29, t113_30, t113_33, t113_35, t113_36, t113_37, t113_40, t113_41, t113_42, t113_45, t113_47, t113_48, t113_51, t113_53, t113_54, t113_56, t113_57, t113_60, t113_62, t113_63, t113_65, t113_67, t113_69, t113_72, t113_74, t113_76, t113_79, t113_80, t113_82, t113_84, t113_87, t113_90, t113_91, t113_92, t113_93, t113_96, t113_98, t113_100, t113_101, t113_104, t113_106, t113_108, t113_111, t113_113, t113_115, t113_118, t113_119, t113_121, t113_123, t113_126, t113_129, t113_130, t113_131, t113_132, t113_135, t113_137, t113_139, t113_140, t113_143, t113_145, t113_147, t113_150, t113_151, t113_152, t113_154, t113_156, t113_159, t113_161, t113_162, t113_163, t113_165, t113_167, t113_168, t113_169, t113_171, t113_172, t113_174, t113_176, t113_178, t113_181, t113_184, t113_185, t113_188, t113_189, t113_191, t113_192, t113_193, t113_196, t113_197, t113_199, t113_200, t113_203, t113_204, t113_206, t113_209, t113_211, t113_212, t113_214, t113_217, t113_219, t113_222, t113_225, t113_228, t113_229, lk_s, hp_get, hp_set, uH_at, uH_ne, uH_upd, uH_swap, iZ_add, iZ_sub, iZ_mul, iZ_neg, iZ_lt, iZ_le, iZ_eq, iZ_div, iZ_of, ix_Z, gZ_map, gZ_mapI, gZ_map', le_0, le_s, sZ_map, sZ_len, bZ_0, bZ_inj, bZ_t, bZ_f, nr_i, nr_0, nr_1, nr_b, ft_i, ft_b, ft_0, ft_1, zl_0, zl_1, zl_99, mF_len, mg_0, mg_1, mg_2, mg_3, mg_4, mg_5, mg_6, mg_7, mg_8, mg_9, mg_10, mg_11, mg_12, mg_13, mg_14, mg_15, mg_16, mg_17, mg_18, mg_19, mg_20, mg_21, mg_22, mg_23, mg_24, mg_25, mg_26, mg_27, mg_28, mg_29, mg_30, mg_31, mg_32, mg_33, mg_34, mg_35, mg_36, mg_37, mg_38, ms_0, ms_1, ms_2, ms_13, ms_14, ms_15, ms_16, ms_21, ms_22, ms_23, ms_24, ms_28, ms_36, ms_37, ms_38, st_at, st_ne, st_st, st_swap, unH, hm, g2, g3, g4, g5, g6, g7, b1, hvq, -List.filter_filter, -List.getElem?_map, -List.getD_eq_getElem?_getD]
            · -- one sign: its terms are pushed
              have nvp : ¬ pz S p < 99 := by rw [← ezp]; exact hvp
              have epq : pz S q = pz S p := by rw [← ezp, ← ezq, hne]
              have har := ar_le (gZ S p)
              have hTp : Ts (ar (gZ S p)) (tk (ar (gZ S p)) (S.drop (p + 1))) := by
                have := Tp
                rw [tm_eq (by omega)] at this
                have h9 : Ts (0 + ar (pz S p)) (tk (ar (pz S p)) (S.drop (p + 1))) := this
                rw [Nat.zero_add] at h9
                rw [ezp]
                exact h9
              have hTq : Ts (ar (gZ S p)) (tk (ar (gZ S p)) (S.drop (q + 1))) := by
                have := Tq
                rw [tm_eq (by omega)] at this
                have h9 : Ts (0 + ar (pz S q)) (tk (ar (pz S q)) (S.drop (q + 1))) := this
                rw [Nat.zero_add] at h9
                rw [hne, ezq]
                exact h9
              have E1 : ((p : Int) + 1).toNat = p + 1 := by omega
              have E2 : ((q : Int) + 1).toNat = q + 1 := by omega
              have C1 := c1_st (i := 8) (v := .int (iZ ((p : Int) + 1))) rfl g1
              have C2 := c1_st (i := 9) (v := .int (iZ ((q : Int) + 1))) rfl C1
              have C3 := c1_st (i := 10) (v := .int (iZ 0)) rfl C2
              obtain ⟨lv2, f1, f2, f3, cut2⟩ := l113_174 (Bd := Bd) d hN hm hW hS (gZ S p) sp.1 sp.2 St En (ar (gZ S p)) 0 ((p : Int) + 1) ((q : Int) + 1) (T - 1) Lf Rg _ h1 h2 (by omega) (by omega) (by omega) (by omega) (by rw [E1]; exact hTp) (by rw [E2]; exact hTq) (by omega) (by omega) C3 (by rw [lk_s C2, lk_s C1, lk_s g1]; exact g2) (by rw [lk_s C2, lk_s C1, lk_s g1]; exact g3) (by rw [lk_s C2, lk_s C1, lk_s g1]; exact g6) (by rw [lk_s C2, lk_s C1, lk_s g1]; rfl) (by rw [lk_s C2, lk_s C1]; rfl) (by rw [lk_s C2]; rfl)
              have lo1 : ∀ i : Nat, i < G.length → gZ (psh S Lf (T - 1) (ar (gZ S p)) ((p : Int) + 1)) i = gZ Lf i := fun i hi => psh_low (by omega) (by omega) (by omega) (by omega)
              have lo2 : ∀ i : Nat, i < G.length → gZ (psh S Rg (T - 1) (ar (gZ S p)) ((q : Int) + 1)) i = gZ Rg i := fun i hi => psh_low (by omega) (by omega) (by omega) (by omega)
              have up1 : ∀ j : Nat, j < ar (pz S p) → (gZ (psh S Lf (T - 1) (ar (gZ S p)) ((p : Int) + 1)) ((G.length + j : Nat) : Int)).toNat = (args S p)[j]?.getD 0 := fun j hj => by
                have := psh_at (S := S) (r := ar (gZ S p)) (L := Lf) (T := T - 1) (x := (p : Int) + 1) (j := j) (by omega) (by omega) (by omega) (by rw [ezp]; exact hj)
                rw [show ((G.length + j : Nat) : Int) = T - 1 + (j : Int) by omega, this, Int.toNat_natCast, E1]
                show (apos S (ar (gZ S p)) (p + 1))[j]?.getD 0 = (apos S (ar (pz S p)) (p + 1))[j]?.getD 0
                rw [ezp]
              have up2 : ∀ j : Nat, j < ar (pz S p) → (gZ (psh S Rg (T - 1) (ar (gZ S p)) ((q : Int) + 1)) ((G.length + j : Nat) : Int)).toNat = (args S q)[j]?.getD 0 := fun j hj => by
                have := psh_at (S := S) (r := ar (gZ S p)) (L := Rg) (T := T - 1) (x := (q : Int) + 1) (j := j) (by omega) (by omega) (by omega) (by rw [ezp]; exact hj)
                rw [show ((G.length + j : Nat) : Int) = T - 1 + (j : Int) by omega, this, Int.toNat_natCast, E2]
                show (apos S (ar (gZ S p)) (q + 1))[j]?.getD 0 = (apos S (ar (pz S q)) (q + 1))[j]?.getD 0
                rw [epq, ezp]
              have mem_at : ∀ {l : List Nat} {j : Nat}, j < l.length → l[j]?.getD 0 ∈ l := fun {l j} hj => by
                rw [List.getElem?_eq_getElem hj]
                exact List.getElem_mem hj
              have lp : (args S p).length = ar (pz S p) := apos_len S _ _
              have lq : (args S q).length = ar (pz S p) := by
                have := apos_len S (ar (pz S q)) (q + 1)
                show (apos S (ar (pz S q)) (q + 1)).length = _
                rw [this, epq]
              have hU2 := hU'.sons (Lf' := psh S Lf (T - 1) (ar (gZ S p)) ((p : Int) + 1)) (Rg' := psh S Rg (T - 1) (ar (gZ S p)) ((q : Int) + 1)) (p := p) (q := q) (by omega) (by omega) Tp Tq nvp epq ep eq (fun i hi => ⟨lo1 i hi, lo2 i hi⟩) (fun j hj => ⟨up1 j hj, up2 j hj⟩)
              have hsm2 := sm_args (ρ := ρ) (Lf := Lf) (Lf' := psh S Lf (T - 1) (ar (gZ S p)) ((p : Int) + 1)) (t := G.length) (p := p) (by omega) Tp nvp lo1 up1
              have etl : (sub ρ (tm S p)).length ≤ (sub ρ (tm S (gZ Lf (T - 1)).toNat)).length := by
                rw [etr, List.length_append]
                omega
              have eG : (pn p (ar (pz S p)) ++ G).length = G.length + ar (pz S p) := by
                rw [List.length_append, pn_len, Nat.add_comm]
              have hK2 : SK ρ S (psh S Lf (T - 1) (ar (gZ S p)) ((p : Int) + 1)) (pn p (ar (pz S p)) ++ G) := by
                refine SK_push (SK_congr lo1 hK.2.2.2) (by omega) (fun x hx => ?_) (ar_le _) (fun j hj => ?_)
                · obtain ⟨x1, x2, x3⟩ := hK.2.1 x hx
                  refine ⟨x1, ?_⟩
                  have hb := hled _ (hbel x2)
                  rcases x3 with x3 | x3
                  · rw [← x3.1]
                    exact hb
                  · exact x3.trans hb
                · rw [up1 j hj]
                  exact Bel.arg (by omega) Tp nvp (mem_at (by omega))
              have hO2 : ∀ i : Nat, i < (pn p (ar (pz S p)) ++ G).length → okp S (gZ (psh S Lf (T - 1) (ar (gZ S p)) ((p : Int) + 1)) i) ∧ okp S (gZ (psh S Rg (T - 1) (ar (gZ S p)) ((q : Int) + 1)) i) := fun i hi => by
                rw [eG] at hi
                by_cases hi2 : i < G.length
                · rw [lo1 i hi2, lo2 i hi2]
                  exact hO i (Nat.lt_succ_of_lt hi2)
                · obtain ⟨j, rfl⟩ : ∃ j, i = G.length + j := ⟨i - G.length, by omega⟩
                  have hj : j < ar (pz S p) := by omega
                  have z1 := psh_at (S := S) (r := ar (gZ S p)) (L := Lf) (T := T - 1) (x := (p : Int) + 1) (j := j) (by omega) (by omega) (by omega) (by rw [ezp]; exact hj)
                  have z2 := psh_at (S := S) (r := ar (gZ S p)) (L := Rg) (T := T - 1) (x := (q : Int) + 1) (j := j) (by omega) (by omega) (by omega) (by rw [ezp]; exact hj)
                  have u1 := up1 j hj
                  have u2 := up2 j hj
                  rw [show ((G.length + j : Nat) : Int) = T - 1 + (j : Int) by omega] at u1 u2 ⊢
                  rw [z1, Int.toNat_natCast] at u1
                  rw [z2, Int.toNat_natCast] at u2
                  rw [z1, z2, u1, u2]
                  exact ⟨okp_arg hl op (by rw [Int.toNat_natCast]; exact mem_at (by omega)), okp_arg hl oq (by rw [Int.toNat_natCast]; exact mem_at (by omega))⟩
              obtain ⟨Bd', Lf', Rg', St', En', b, r1, r2, r3, r4, r5, r6, r7, r8⟩ := ihn Bd _ _ St En ρ (pn p (ar (pz S p)) ++ G) (T - 1 + (ar (gZ S p) : Int)) lv2 hB (by rw [psh_len]; exact h1) (by rw [psh_len]; exact h2) h3 h4 hu (by rw [eG]; omega) (by rw [eG]; exact hU2) hK2 hO2 (by rw [eG, ezp]; omega) f1 f2 f3
              refine ⟨Bd', Lf', Rg', St', En', b, r1, r2, r3, r4, r5, cut _ (Gx.run 80 Cs.tt (fun C _ => ?_) (cut2 _ r6)), r7, r8⟩
              have b0 : 99 ≤ gZ S p := by omega
              have b1 : 99 ≤ gZ S q := by omega
              have b2 : ¬ gZ S q < 99 := by omega
              simp (disch := first | (refine c1_id ?_; assumption) | (refine c1_st rfl ?_; repeat (first | assumption | refine c1_st rfl ?_)) | omega) [nx_l, nx_r, nx_n, x_st, x_push, x_bin, x_div, x_un, x_dup, x_pop, x_dup2, x_goto, x_ifeq, x_ifne, x_iflt, x_ifge, x_ifgt, x_ifle, x_iceq, x_icne, x_iclt, x_icge, x_icgt, x_icle, x_ifnull, x_ifnonnull, x_ldi, x_lda, x_sti, x_sta, x_iinc, x_gf, x_pf, x_ald, x_ast, x_aln, x_len, x_cl_, x_cv, x_cs, x_rc, x_r0, x_isT, x_oi, x_rv, x_ri, x_ra, Value.category, t113_0, t113_1, t113_2, t113_3, t113_6, t113_7, t113_8, t113_9, t113_10, t113_13, t113_14, t113_15, t113_16, t113_17, t113_20, t113_23, t113_24, t113_25, t113_28, t113_29, t113_30, t113_33, t113_35, t113_36, t113_37, t113_40, t113_41, t113_42, t113_45, t113_47, t113_48, t113_51, t113_53, t113_54, t113_56, t113_57, t113_60, t113_62, t113_63, t113_65, t113_67, t113_69, t113_72, t113_74, t113_76, t113_79, t113_80, t113_82, t113_84, t113_87, t113_90, t113_91, t113_92, t113_93, t113_96, t113_98, t113_100, t113_101, t113_104, t113_106, t113_108, t113_111, t113_113, t113_115, t113_118, t113_119, t113_121, t113_123, t113_126, t113_129, t113_130, t113_131, t113_132, t113_135, t113_137, t113_139, t113_140, t113_143, t113_145, t113_147, t113_150, t113_151, t113_152, t113_154, t113_156, t113_159, t113_161, t113_162, t113_163, t113_165, t113_167, t113_168, t113_169, t113_171, t113_172, t113_174, t113_176, t113_178, t113_181, t113_184, t113_185, t113_188, t113_189, t113_191, t113_192, t113_193, t113_196, t113_197, t113_199, t113_200, t113_203, t113_204, t113_206, t113_209, t113_211, t113_212, t113_214, t113_217, t113_219, t113_222, t113_225, t113_228, t113_229, lk_s, hp_get, hp_set, uH_at, uH_ne, uH_upd, uH_swap, iZ_add, iZ_sub, iZ_mul, iZ_neg, iZ_lt, iZ_le, iZ_eq, iZ_div, iZ_of, ix_Z, gZ_map, gZ_mapI, gZ_map', le_0, le_s, sZ_map, sZ_len, bZ_0, bZ_inj, bZ_t, bZ_f, nr_i, nr_0, nr_1, nr_b, ft_i, ft_b, ft_0, ft_1, zl_0, zl_1, zl_99, mF_len, mg_0, mg_1, mg_2, mg_3, mg_4, mg_5, mg_6, mg_7, mg_8, mg_9, mg_10, mg_11, mg_12, mg_13, mg_14, mg_15, mg_16, mg_17, mg_18, mg_19, mg_20, mg_21, mg_22, mg_23, mg_24, mg_25, mg_26, mg_27, mg_28, mg_29, mg_30, mg_31, mg_32, mg_33, mg_34, mg_35, mg_36, mg_37, mg_38, ms_0, ms_1, ms_2, ms_13, ms_14, ms_15, ms_16, ms_21, ms_22, ms_23, ms_24, ms_28, ms_36, ms_37, ms_38, st_at, st_ne, st_st, st_swap, unH, hm, g2, g3, g4, g5, g6, g7, b0, b1, b2, hne, hvp, -List.filter_filter, -List.getElem?_map, -List.getD_eq_getElem?_getD]
          · -- two signs
            have np9 : ¬ gZ S p < 99 := fun z => c1v ⟨z, hne⟩
            have nq9 : ¬ gZ S q < 99 := fun z => c2v ⟨z, hne⟩
            refine ⟨Bd, Lf, Rg, St, En, false, hB.1, h1, h2, h3, h4, cut _ (Gx.fin 80 Cs.tt (fun C _ => ?_)), (fun e => by cases e), fun _ => hU'.clash (f := gZ S p) (g := gZ S q) (x := tk (ar (pz S p)) (S.drop (p + 1))) (y := tk (ar (pz S q)) (S.drop (q + 1))) np9 nq9 hne ?_ ?_⟩
            · have b0 : 99 ≤ gZ S p := by omega
              have b1 : 99 ≤ gZ S q := by omega
              simp (disch := first | (refine c1_id ?_; assumption) | (refine c1_st rfl ?_; repeat (first | assumption | refine c1_st rfl ?_)) | omega) [nx_l, nx_r, nx_n, x_st, x_push, x_bin, x_div, x_un, x_dup, x_pop, x_dup2, x_goto, x_ifeq, x_ifne, x_iflt, x_ifge, x_ifgt, x_ifle, x_iceq, x_icne, x_iclt, x_icge, x_icgt, x_icle, x_ifnull, x_ifnonnull, x_ldi, x_lda, x_sti, x_sta, x_iinc, x_gf, x_pf, x_ald, x_ast, x_aln, x_len, x_cl_, x_cv, x_cs, x_rc, x_r0, x_isT, x_oi, x_rv, x_ri, x_ra, Value.category, t113_0, t113_1, t113_2, t113_3, t113_6, t113_7, t113_8, t113_9, t113_10, t113_13, t113_14, t113_15, t113_16, t113_17, t113_20, t113_23, t113_24, t113_25, t113_28, t113_29, t113_30, t113_33, t113_35, t113_36, t113_37, t113_40, t113_41, t113_42, t113_45, t113_47, t113_48, t113_51, t113_53, t113_54, t113_56, t113_57, t113_60, t113_62, t113_63, t113_65, t113_67, t113_69, t113_72, t113_74, t113_76, t113_79, t113_80, t113_82, t113_84, t113_87, t113_90, t113_91, t113_92, t113_93, t113_96, t113_98, t113_100, t113_101, t113_104, t113_106, t113_108, t113_111, t113_113, t113_115, t113_118, t113_119, t113_121, t113_123, t113_126, t113_129, t113_130, t113_131, t113_132, t113_135, t113_137, t113_139, t113_140, t113_143, t113_145, t113_147, t113_150, t113_151, t113_152, t113_154, t113_156, t113_159, t113_161, t113_162, t113_163, t113_165, t113_167, t113_168, t113_169, t113_171, t113_172, t113_174, t113_176, t113_178, t113_181, t113_184, t113_185, t113_188, t113_189, t113_191, t113_192, t113_193, t113_196, t113_197, t113_199, t113_200, t113_203, t113_204, t113_206, t113_209, t113_211, t113_212, t113_214, t113_217, t113_219, t113_222, t113_225, t113_228, t113_229, lk_s, hp_get, hp_set, uH_at, uH_ne, uH_upd, uH_swap, iZ_add, iZ_sub, iZ_mul, iZ_neg, iZ_lt, iZ_le, iZ_eq, iZ_div, iZ_of, ix_Z, gZ_map, gZ_mapI, gZ_map', le_0, le_s, sZ_map, sZ_len, bZ_0, bZ_inj, bZ_t, bZ_f, nr_i, nr_0, nr_1, nr_b, ft_i, ft_b, ft_0, ft_1, zl_0, zl_1, zl_99, mF_len, mg_0, mg_1, mg_2, mg_3, mg_4, mg_5, mg_6, mg_7, mg_8, mg_9, mg_10, mg_11, mg_12, mg_13, mg_14, mg_15, mg_16, mg_17, mg_18, mg_19, mg_20, mg_21, mg_22, mg_23, mg_24, mg_25, mg_26, mg_27, mg_28, mg_29, mg_30, mg_31, mg_32, mg_33, mg_34, mg_35, mg_36, mg_37, mg_38, ms_0, ms_1, ms_2, ms_13, ms_14, ms_15, ms_16, ms_21, ms_22, ms_23, ms_24, ms_28, ms_36, ms_37, ms_38, st_at, st_ne, st_st, st_swap, unH, hm, g2, g3, g4, g5, g6, g7, b0, b1, hne, -List.filter_filter, -List.getElem?_map, -List.getD_eq_getElem?_getD]
            · rw [ep, tm_eq (by omega), ezp]
            · rw [eq, tm_eq (by omega), ezq]
theorem un_all (d : Nat) (hN : 53 ≤ N) (hm : w 27 = .inr (8, mF m)) (hW : w 45 = cI 0 S) (hS : SOK S) (a0 b0 : List Int) (c n : Nat) : UP d w N S a0 b0 c n := by
  have : ∀ c, ∀ n, UP d w N S a0 b0 c n := fun c => by
    induction c using Nat.strongRecOn with
    | _ c ih => exact un_key d hN hm hW hS a0 b0 c ih
  exact this c n
end UN
