/-! the class: apply, rule by rule -/

theorem Ts_flt : ∀ {D : List (Int × List Int)}, (∀ y ∈ D, Ts 1 y.2) → Ts D.length (flt D)
  | [], _ => by rw [flt_nil]; rfl
  | x :: D, h => by
    rw [flt_cons]
    have := Ts_app (h x List.mem_cons_self) (Ts_flt (D := D) (fun y hy => h y (List.mem_cons_of_mem _ hy)))
    rw [List.length_cons, Nat.add_comm]
    exact this
theorem tmA {C : List (Int × List Int)} {k i : Nat} (hk : k < C.length) (hi : i < (lC C k).2.length) (hT : Ts 1 (lC C k).2) : tm (flt C) (stC C k + i) = tm (lC C k).2 i := by
  have := tm_in (S := flt C) (a := (stC C k : Int)) (by omega) (flt_seg hk) hi (Ts_at hT hi)
  rw [show ((stC C k : Int) + (i : Int)).toNat = stC C k + i by omega] at this
  exact this
theorem atL {D X : List (Int × List Int)} {pl fi : Int} {q : Nat} (hq : q < D.length) (h : pl < (stC D q : Nat) ∨ ((stC D (q + 1) : Nat) : Int) ≤ pl) : ((lC D q).1, atP (flt (D ++ X)) pl fi (0 + stC D q) (0 + stC D (q + 1))) = lC D q := by
  have e : atP (flt (D ++ X)) pl fi (0 + stC D q) (0 + stC D (q + 1)) = (lC D q).2 := by
    rw [Nat.zero_add, Nat.zero_add]
    unfold atP
    rw [if_pos h]
    have := segL (C := D ++ X) (q := q) (by rw [List.length_append]; omega)
    rw [stC_app (by omega), stC_app (by omega), lC_app hq] at this
    exact this
  rw [e]
theorem lC_shC {D : List (Int × List Int)} {q : Nat} (hq : q < D.length) : lC (shC D) q = litR (fun v => v + 26) (lC D q) := by
  unfold shC
  rw [lC_map hq]
theorem segR {D D2 : List (Int × List Int)} {q : Nat} (hq : q < D2.length) : seg (flt (D ++ shC D2)) (((flt D).length + stC D2 q : Nat) : Int) (((flt D).length + stC D2 (q + 1) : Nat) : Int) = (lC (shC D2) q).2 := by
  have := segL (C := D ++ shC D2) (q := D.length + q) (by rw [List.length_append, shC_len]; omega)
  rw [Nat.add_assoc, stC_appR, stC_appR, lC_appR, stC_shC, stC_shC] at this
  exact this
theorem atR {D D2 : List (Int × List Int)} {pl fi : Int} {q : Nat} (hq : q < D2.length) (h : pl < ((flt D).length + stC D2 q : Nat) ∨ (((flt D).length + stC D2 (q + 1) : Nat) : Int) ≤ pl) : ((lC D2 q).1, atP (flt (D ++ shC D2)) pl fi ((flt D).length + stC D2 q) ((flt D).length + stC D2 (q + 1))) = lC (shC D2) q := by
  have e : atP (flt (D ++ shC D2)) pl fi ((flt D).length + stC D2 q) ((flt D).length + stC D2 (q + 1)) = (lC (shC D2) q).2 := by
    unfold atP
    rw [if_pos h]
    exact segR hq
  rw [e, lC_shC hq]
  rfl
theorem RZ.fit {fit : Prop} {a b : List Int} {L : List (Int × List Int)} {r : Int} {C : List (Int × List Int)} (h : RZ True a b L r C) (hf : fit) : RZ fit a b L r C := by
  rcases h with ⟨h, _⟩ | ⟨_, h⟩ | ⟨_, h⟩
  · exact absurd trivial h
  · exact Or.inr (Or.inl ⟨hf, h⟩)
  · exact Or.inr (Or.inr ⟨hf, h⟩)
theorem GL.gin {w w' : Nat → xC} {Q Sy Ro Fs : List Int} (h : GIn w) (g : GL w' Q Sy Ro Fs) (f : Fr ksG w w') : GIn w' := by
  obtain ⟨l0, wt, Sy0, Ee, Ro0, Fs0, Fi, Os, Ot, g1, g2, g3, g4, g5, g6, g7, g8, g9, g10, g11, g12, g13, g14, g15, g16, g17⟩ := h
  obtain ⟨⟨wt', a1⟩, a2, a3, a4, a5, ar_, a6, a7, a8⟩ := g
  exact ⟨_, wt', Sy, Ee, Ro, Fs, Fi, Os, Ot, a1, a2, a3, (f 18 (by decide)).trans g4, g5, a4, a5, ar_, a6, a7, (f 21 (by decide)).trans g11, g12, g13, (f 22 (by decide)).trans g14, g15, (f 23 (by decide)).trans g16, g17⟩
theorem GIn.ends {w : Nat → xC} (h : GIn w) : ∃ Ee : List Int, w 18 = cI 0 Ee ∧ Ee.length = 80 := by
  obtain ⟨l0, wt, Sy0, Ee, Ro0, Fs0, Fi, Os, Ot, g1, g2, g3, g4, g5, _⟩ := h
  exact ⟨Ee, g4, g5⟩
theorem GIn.set {w : Nat → xC} {Ee : List Int} (h : GIn w) (e : Ee.length = 80) : GIn (uH w 18 (cI 0 Ee)) := by
  obtain ⟨l0, wt, Sy0, Ee0, Ro0, Fs0, Fi, Os, Ot, g1, g2, g3, g4, g5, g6, g7, g8, g9, g10, g11, g12, g13, g14, g15, g16, g17⟩ := h
  exact ⟨_, wt, Sy0, Ee, Ro0, Fs0, Fi, Os, Ot, by rw [uH_ne (by decide)]; exact g1, by rw [uH_ne (by decide)]; exact g2, g3, uH_at _ _ _, e, by rw [uH_ne (by decide)]; exact g6, g7, g8, by rw [uH_ne (by decide)]; exact g9, g10, by rw [uH_ne (by decide)]; exact g11, g12, g13, by rw [uH_ne (by decide)]; exact g14, g15, by rw [uH_ne (by decide)]; exact g16, g17⟩
theorem RG.mv {w w' : Nat → xC} {P Sy Ee Ro : List Int} (h : RG w P Sy Ee Ro) (f : ∀ j, 16 ≤ j → j ≤ 23 → w' j = w j) : RG w' P Sy Ee Ro := by
  obtain ⟨⟨wt, h1⟩, h2, h3, h4, h5, h6, h7, h8, h9, h10, ⟨Fs, h11, h12⟩, ⟨Fi, h13, h14⟩, ⟨Os, h16, h17⟩, ⟨Ot, h18, h19⟩, h20⟩ := h
  exact ⟨⟨wt, (f 16 (by decide) (by decide)).trans h1⟩, h2, (f 17 (by decide) (by decide)).trans h3, (f 18 (by decide) (by decide)).trans h4, h5, h6, (f 19 (by decide) (by decide)).trans h7, h8, h9, h10, ⟨Fs, (f 20 (by decide) (by decide)).trans h11, h12⟩, ⟨Fi, (f 21 (by decide) (by decide)).trans h13, h14⟩, ⟨Os, (f 22 (by decide) (by decide)).trans h16, h17⟩, ⟨Ot, (f 23 (by decide) (by decide)).trans h18, h19⟩, h20⟩
def ksP : List Nat := [16, 17, 18, 19, 20]
theorem n53 {ks : List Nat} (h : ∀ j ∈ ks, j < 53) {j : Nat} (hj : 53 ≤ j) : ¬ j ∈ ks := fun z => by
  have := h j z
  omega
section DF
variable {N : Nat} {w : Nat → xC} {D D2 : List (Int × List Int)} {a b : Nat} {S E B S2 E2 B2 : List Int} {o o2 : Int} {q1 q2 q3 q4 q5 q6 : Int}
theorem gC.hs (h : gC D) : ∀ s ∈ flt D, 0 ≤ s ∧ s < 204 ∧ (s < 99 → s < 26) := fun s hs => by
  obtain ⟨y, hy, hz⟩ := flt_of hs
  exact (h.2.2 y hy).2.2 s hz
set_option maxHeartbeats 1000000 in
theorem P59 (d : Nat) (hN : 53 ≤ N) (two : Bool) (rule : Int) (r0 : 0 ≤ rule) (r9 : rule < 10) (h2 : two = decide (rule = 0 ∨ rule = 3)) (ha : 53 ≤ a) (hb : 53 ≤ b) (hf : FM w N a S E B D o) (hf2 : two = true → FM w N b S2 E2 B2 D2 o2) (hd : w 11 = dO q1 q2 q3 q4 q5 q6) (hI : GIn w) (lv : xL) (hc : c1 lv) (l0 : x_lk lv 0 = some (.ref 14)) (l1 : x_lk lv 1 = some (.int (iZ rule))) (l2 : x_lk lv 2 = some (.ref (a + 3))) (l4 : x_lk lv 4 = some (.ref (b + 3))) :
    ∃ (w1 : Nat → xC) (Sy Ee Ro : List Int), Fr ksP w w1 ∧ RG w1 (flt (D ++ (if two = true then shC D2 else []))) Sy Ee Ro ∧ ∀ res, Gx q_k59 (d + 4) 37 ((7, .int (iZ (bZ two))) :: lv.filter (x_keep 7), [], hp w1 N) res → Gx q_k59 (d + 4) 0 (lv, [], hp w N) res := by
  obtain ⟨m1, m2, m3, m4, m5, m6, m7⟩ := hf
  have X85 := m85 (d + 3) w N rule (by omega) (by omega)
  rw [← h2] at X85
  have nG : ∀ j, 53 ≤ j → ¬ j ∈ ksG := fun j hj => n53 (by decide) hj
  obtain ⟨w1, Sy1, Ro1, Fs1, i1, i2, i3⟩ := m40 (N := N) (d + 1) hN (fun j j0 _ => nG j (by omega)) m2 m3 m5 m4.hs (by have := m4.2.1; omega) hI m1
  have hI1 := i2.gin hI i1
  have hd1 : w1 11 = dO q1 q2 q3 q4 q5 q6 := (i1 11 (by decide)).trans hd
  obtain ⟨wt1, g16⟩ := i2.1
  have C7 := c1_st (i := 7) (v := .int (iZ (bZ two))) rfl hc
  have hr16 : ∃ l0 wt0, w 16 = gO l0 wt0 := by
    obtain ⟨l0, wt, Sy0, Ee, Ro0, Fs0, Fi, Os, Ot, g1, _⟩ := hI
    exact ⟨_, _, g1⟩
  obtain ⟨lz, wz, hw16⟩ := hr16
  -- what findEnds leaves
  have fin : ∀ {v : Nat → xC} {P Sy Ro Fs : List Int} {n : Nat}, Fr ksG w v → GL v P Sy Ro Fs → Ts n P → ∃ (w2 : Nat → xC) (Ee : List Int), Fr ksP w w2 ∧ RG w2 P Sy Ee Ro ∧ Xc (d + 4) 42 [.ref 19] (hp v N) (none, hp w2 N) := fun {v P Sy Ro Fs n} fv gl hT => by
    have hIv := gl.gin hI fv
    obtain ⟨Ee, k1, k2⟩ := hIv.ends
    obtain ⟨wt, g1⟩ := gl.1
    obtain ⟨Ee', j1, j2, j3⟩ := m42 (N := N) (d + 2) hN (gl.gv hT) g1 gl.2.1 k1 k2
    exact ⟨_, Ee', (fv.sub (by decide)).up (by decide), gl.rg (fun j hj => uH_ne hj) (hIv.set j1) hT (uH_at _ _ _) j1 j2, j3⟩
  have hT1 : ∀ y ∈ D, Ts 1 y.2 := fun y hy => (m4.2.2 y hy).2.1
  cases two with
  | false =>
    obtain ⟨w2, Ee, k1, k2, k3⟩ := fin i1 i2 (Ts_flt hT1)
    refine ⟨w2, Sy1, Ee, Ro1, k1, by rw [if_neg (by decide), List.append_nil]; exact k2, fun res hres => ?_⟩
    refine Gx.run 60 ((X85.and i3).and k3) (fun X mm => ?_) hres
    obtain ⟨⟨mm1, mm2⟩, mm3⟩ := mm
    rw [bZ_f] at mm1 ⊢
    simp (disch := first | (refine c1_id ?_; assumption) | (refine c1_st rfl ?_; repeat (first | assumption | refine c1_st rfl ?_)) | omega) [nx_l, nx_r, nx_n, x_st, x_push, x_bin, x_div, x_un, x_dup, x_pop, x_dup2, x_goto, x_ifeq, x_ifne, x_iflt, x_ifge, x_ifgt, x_ifle, x_iceq, x_icne, x_iclt, x_icge, x_icgt, x_icle, x_ifnull, x_ifnonnull, x_ldi, x_lda, x_sti, x_sta, x_iinc, x_gf, x_pf, x_ald, x_ast, x_aln, x_len, x_cl_, x_cv, x_cs, x_rc, x_r0, x_isT, x_oi, x_rv, x_ri, x_ra, Value.category, t59_0, t59_1, t59_4, t59_6, t59_7, t59_10, t59_11, t59_14, t59_16, t59_19, t59_20, t59_23, t59_25, t59_27, t59_30, t59_31, t59_34, t59_37, t59_38, t59_39, t59_40, t59_41, t59_43, t59_45, t59_47, t59_50, t59_53, t59_55, t59_56, t59_57, t59_60, t59_61, t59_64, t59_65, t59_68, t59_71, t59_74, t59_76, t59_77, t59_78, t59_81, t59_84, t59_85, t59_86, t59_87, t59_90, t59_93, t59_95, t59_98, t59_99, t59_101, t59_102, t59_105, t59_108, t59_111, t59_112, t59_115, t59_116, t59_118, t59_120, t59_123, t59_124, t59_127, t59_130, t59_132, t59_135, t59_136, t59_139, t59_141, lk_s, hp_get, hp_set, uH_at, uH_ne, uH_upd, uH_swap, iZ_add, iZ_sub, iZ_mul, iZ_neg, iZ_lt, iZ_le, iZ_eq, iZ_div, iZ_of, ix_Z, gZ_map, gZ_mapI, gZ_map', le_0, le_s, sZ_map, sZ_len, bZ_0, bZ_inj, bZ_t, bZ_f, nr_i, nr_0, nr_1, nr_b, ft_i, ft_b, ft_0, ft_1, zl_0, zl_1, zl_5, zl_6, zl_7, zl_26, l0, l1, l2, hd, hd1, hw16, g16, mm1, mm2, mm3, dO, gO, -List.filter_filter, -List.getElem?_map, -List.getD_eq_getElem?_getD]
  | true =>
    obtain ⟨n1, n2, n3, n4, n5, n6, n7⟩ := (hf2 rfl).mv (w' := w1) (fun j j0 _ => i1 j (nG j (by omega)))
    obtain ⟨w2, Sy2, Ro2, Fs2, j1, j2, j3⟩ := m41 (N := N) (d + 2) hN 26 (by omega) (by omega) (fun j j0 _ => nG j (by omega)) n2 n3 n5 n4.hs (by have := m4.2.1; have := n4.2.1; omega) i2 n1
    have hd2 : w2 11 = dO q1 q2 q3 q4 q5 q6 := (j1 11 (by decide)).trans hd1
    obtain ⟨wt2, g26⟩ := j2.1
    have hT2 : ∀ y ∈ D ++ shC D2, Ts 1 y.2 := fun y hy => by
      rcases List.mem_append.mp hy with hy | hy
      · exact hT1 y hy
      · exact (n4.shift y hy).2.1
    have eP : flt D ++ ren (fun v => v + 26) (flt D2) = flt (D ++ shC D2) := by rw [flt_app, flt_shC]
    rw [eP] at j2 g26
    obtain ⟨w3, Ee, k1, k2, k3⟩ := fin (i1.tr j1) j2 (Ts_flt hT2)
    refine ⟨w3, Sy2, Ee, Ro2, k1, by rw [if_pos rfl]; exact k2, fun res hres => ?_⟩
    refine Gx.run 60 (((X85.and i3).and j3).and k3) (fun X mm => ?_) hres
    obtain ⟨⟨⟨mm1, mm2⟩, mm3⟩, mm4⟩ := mm
    rw [bZ_t] at mm1 ⊢
    simp (disch := first | (refine c1_id ?_; assumption) | (refine c1_st rfl ?_; repeat (first | assumption | refine c1_st rfl ?_)) | omega) [nx_l, nx_r, nx_n, x_st, x_push, x_bin, x_div, x_un, x_dup, x_pop, x_dup2, x_goto, x_ifeq, x_ifne, x_iflt, x_ifge, x_ifgt, x_ifle, x_iceq, x_icne, x_iclt, x_icge, x_icgt, x_icle, x_ifnull, x_ifnonnull, x_ldi, x_lda, x_sti, x_sta, x_iinc, x_gf, x_pf, x_ald, x_ast, x_aln, x_len, x_cl_, x_cv, x_cs, x_rc, x_r0, x_isT, x_oi, x_rv, x_ri, x_ra, Value.category, t59_0, t59_1, t59_4, t59_6, t59_7, t59_10, t59_11, t59_14, t59_16, t59_19, t59_20, t59_23, t59_25, t59_27, t59_30, t59_31, t59_34, t59_37, t59_38, t59_39, t59_40, t59_41, t59_43, t59_45, t59_47, t59_50, t59_53, t59_55, t59_56, t59_57, t59_60, t59_61, t59_64, t59_65, t59_68, t59_71, t59_74, t59_76, t59_77, t59_78, t59_81, t59_84, t59_85, t59_86, t59_87, t59_90, t59_93, t59_95, t59_98, t59_99, t59_101, t59_102, t59_105, t59_108, t59_111, t59_112, t59_115, t59_116, t59_118, t59_120, t59_123, t59_124, t59_127, t59_130, t59_132, t59_135, t59_136, t59_139, t59_141, lk_s, hp_get, hp_set, uH_at, uH_ne, uH_upd, uH_swap, iZ_add, iZ_sub, iZ_mul, iZ_neg, iZ_lt, iZ_le, iZ_eq, iZ_div, iZ_of, ix_Z, gZ_map, gZ_mapI, gZ_map', le_0, le_s, sZ_map, sZ_len, bZ_0, bZ_inj, bZ_t, bZ_f, nr_i, nr_0, nr_1, nr_b, ft_i, ft_b, ft_0, ft_1, zl_0, zl_1, zl_5, zl_6, zl_7, zl_26, l0, l1, l2, l4, hd, hd1, hd2, hw16, g16, g26, mm1, mm2, mm3, mm4, dO, gO, -List.filter_filter, -List.getElem?_map, -List.getD_eq_getElem?_getD]
/-- what a run of choose gives, and then the rest -/
theorem Q59 (d : Nat) (hN : 53 ≤ N) (two : Bool) (rule : Int) (r0 : 0 ≤ rule) (r9 : rule < 10) (h2 : two = decide (rule = 0 ∨ rule = 3)) (ha : 53 ≤ a) (hb : 53 ≤ b) (hf : FM w N a S E B D o) (hf2 : two = true → FM w N b S2 E2 B2 D2 o2) (hI : DI w) (k k2 p : Int) {fit : Prop} [Decidable fit] {A1 B1 : List Int} {L : List (Int × List Int)}
    (ch : ∀ (w1 : Nat → xC) (Sy Ee Ro : List Int) (q1 q2 q3 q4 q5 q6 : Int), RG w1 (flt (D ++ (if two = true then shC D2 else []))) Sy Ee Ro → w1 11 = dO q1 q2 q3 q4 q5 q6 → FM w1 N a S E B D o → (two = true → FM w1 N b S2 E2 B2 D2 o2) → ∃ x y f1 f2 pl fi : Int, Xc (d + 5) 60 [.ref 14, .int (iZ rule), .ref (a + 3), .int (iZ k), .ref (b + 3), .int (iZ k2), .int (iZ p)] (hp w1 N) (some (.int (iZ (bZ (decide fit)))), hp (uH w1 11 (dO x y f1 f2 pl fi)) N) ∧
      (fit → ∃ xn yn : Nat, x = xn ∧ y = yn ∧ xn < (flt (D ++ (if two = true then shC D2 else []))).length ∧ yn < (flt (D ++ (if two = true then shC D2 else []))).length ∧ ((-1 ≤ f1 ∧ f1 < 100) ∧ (-1 ≤ f2 ∧ f2 < 100)) ∧ (-1 ≤ pl ∧ pl < 100) ∧
        (∀ q, q < D.length → ((0 + stC D q : Nat) : Int) ≤ pl → pl < ((0 + stC D (q + 1) : Nat) : Int) → ∃ p f : Nat, pl = p ∧ fi = f ∧ f < (flt (D ++ (if two = true then shC D2 else []))).length ∧ p + (tm (flt (D ++ (if two = true then shC D2 else []))) p).length ≤ 0 + stC D (q + 1)) ∧
        (two = true → ∀ q, q < D2.length → (((flt D).length + stC D2 q : Nat) : Int) ≤ pl → pl < (((flt D).length + stC D2 (q + 1) : Nat) : Int) → ∃ p f : Nat, pl = p ∧ fi = f ∧ f < (flt (D ++ (if two = true then shC D2 else []))).length ∧ p + (tm (flt (D ++ (if two = true then shC D2 else []))) p).length ≤ (flt D).length + stC D2 (q + 1)) ∧
        tm (flt (D ++ (if two = true then shC D2 else []))) xn = A1 ∧ tm (flt (D ++ (if two = true then shC D2 else []))) yn = B1 ∧
        ltP (flt (D ++ (if two = true then shC D2 else []))) pl fi f1 f2 0 D D.length 0 ++ (if two = true then ltP (flt (D ++ (if two = true then shC D2 else []))) pl fi f1 f2 (flt D).length D2 D2.length 0 else []) = L)) :
    ∃ (r : Int) (w' : Nat → xC) (C' : List (Int × List Int)), Fr ksX w w' ∧ DI w' ∧ RZ fit A1 B1 L r C' ∧ (r = 0 → LB w' C') ∧ Xc (d + 6) 59 [.ref 14, .int (iZ rule), .ref (a + 3), .int (iZ k), .ref (b + 3), .int (iZ k2), .int (iZ p)] (hp w N) (some (.int (iZ r)), hp w' N) := by
  have hDI := hI
  obtain ⟨⟨q1, q2, q3, q4, q5, q6, hd⟩, hFF, hG⟩ := hI
  have key : ∃ (r : Int) (w' : Nat → xC) (C' : List (Int × List Int)), Fr ksX w w' ∧ DI w' ∧ RZ fit A1 B1 L r C' ∧ (r = 0 → LB w' C') ∧ Gx q_k59 (d + 5) 0 (lv_args 0 [.ref 14, .int (iZ rule), .ref (a + 3), .int (iZ k), .ref (b + 3), .int (iZ k2), .int (iZ p)], [], hp w N) (some (.int (iZ r)), hp w' N) := by
    have hc : c1 (lv_args 0 [.ref 14, .int (iZ rule), .ref (a + 3), .int (iZ k), .ref (b + 3), .int (iZ k2), .int (iZ p)]) := by simp [c1, lv_args, Value.category]
    have l0 : x_lk (lv_args 0 [.ref 14, .int (iZ rule), .ref (a + 3), .int (iZ k), .ref (b + 3), .int (iZ k2), .int (iZ p)]) 0 = some (.ref 14) := rfl
    have l1 : x_lk (lv_args 0 [.ref 14, .int (iZ rule), .ref (a + 3), .int (iZ k), .ref (b + 3), .int (iZ k2), .int (iZ p)]) 1 = some (.int (iZ rule)) := rfl
    have l2 : x_lk (lv_args 0 [.ref 14, .int (iZ rule), .ref (a + 3), .int (iZ k), .ref (b + 3), .int (iZ k2), .int (iZ p)]) 2 = some (.ref (a + 3)) := rfl
    have l3 : x_lk (lv_args 0 [.ref 14, .int (iZ rule), .ref (a + 3), .int (iZ k), .ref (b + 3), .int (iZ k2), .int (iZ p)]) 3 = some (.int (iZ k)) := rfl
    have l4 : x_lk (lv_args 0 [.ref 14, .int (iZ rule), .ref (a + 3), .int (iZ k), .ref (b + 3), .int (iZ k2), .int (iZ p)]) 4 = some (.ref (b + 3)) := rfl
    have l5 : x_lk (lv_args 0 [.ref 14, .int (iZ rule), .ref (a + 3), .int (iZ k), .ref (b + 3), .int (iZ k2), .int (iZ p)]) 5 = some (.int (iZ k2)) := rfl
    have l6 : x_lk (lv_args 0 [.ref 14, .int (iZ rule), .ref (a + 3), .int (iZ k), .ref (b + 3), .int (iZ k2), .int (iZ p)]) 6 = some (.int (iZ p)) := rfl
    generalize lv_args 0 [.ref 14, .int (iZ rule), .ref (a + 3), .int (iZ k), .ref (b + 3), .int (iZ k2), .int (iZ p)] = lv at hc l0 l1 l2 l3 l4 l5 l6 ⊢
    obtain ⟨w1, Sy, Ee, Ro, e1, e2, e3⟩ := P59 (N := N) (d + 1) hN two rule r0 r9 h2 ha hb hf hf2 hd hG lv hc l0 l1 l2 l4
    have nP : ∀ j, 53 ≤ j → ¬ j ∈ ksP := fun j hj => n53 (by decide) hj
    have hd1 : w1 11 = dO q1 q2 q3 q4 q5 q6 := (e1 11 (by decide)).trans hd
    have hf1 := hf.mv (w' := w1) (fun j j0 _ => e1 j (nP j (by omega)))
    have hf21 := fun z => (hf2 z).mv (w' := w1) (fun j j0 _ => e1 j (nP j (by omega)))
    obtain ⟨x, y, f1, f2, pl, fi, X60, hfit⟩ := ch w1 Sy Ee Ro q1 q2 q3 q4 q5 q6 e2 hd1 hf1 hf21
    obtain ⟨w2, hw2⟩ : ∃ w2, w2 = uH w1 11 (dO x y f1 f2 pl fi) := ⟨_, rfl⟩
    rw [← hw2] at X60
    have F2 : Fr ksX w w2 := by rw [hw2]; exact (e1.sub (by decide)).up (by decide)
    have k7 : x_lk ((7, .int (iZ (bZ two))) :: lv.filter (x_keep 7)) 7 = some (.int (iZ (bZ two))) := by rw [lk_s hc]; rfl
    have C7 := c1_st (i := 7) (v := .int (iZ (bZ two))) rfl hc
    have k0 : x_lk ((7, .int (iZ (bZ two))) :: lv.filter (x_keep 7)) 0 = some (.ref 14) := by rw [lk_s hc]; exact l0
    have k1 : x_lk ((7, .int (iZ (bZ two))) :: lv.filter (x_keep 7)) 1 = some (.int (iZ rule)) := by rw [lk_s hc]; exact l1
    have k2_ : x_lk ((7, .int (iZ (bZ two))) :: lv.filter (x_keep 7)) 2 = some (.ref (a + 3)) := by rw [lk_s hc]; exact l2
    have k3 : x_lk ((7, .int (iZ (bZ two))) :: lv.filter (x_keep 7)) 3 = some (.int (iZ k)) := by rw [lk_s hc]; exact l3
    have k4 : x_lk ((7, .int (iZ (bZ two))) :: lv.filter (x_keep 7)) 4 = some (.ref (b + 3)) := by rw [lk_s hc]; exact l4
    have k5 : x_lk ((7, .int (iZ (bZ two))) :: lv.filter (x_keep 7)) 5 = some (.int (iZ k2)) := by rw [lk_s hc]; exact l5
    have k6 : x_lk ((7, .int (iZ (bZ two))) :: lv.filter (x_keep 7)) 6 = some (.int (iZ p)) := by rw [lk_s hc]; exact l6
    generalize ((7, .int (iZ (bZ two))) :: lv.filter (x_keep 7) : xL) = lv7 at e3 C7 k0 k1 k2_ k3 k4 k5 k6 k7
    have hd2 : w2 11 = dO x y f1 f2 pl fi := by rw [hw2, uH_at]
    have hFF2 : FF w2 := by
      obtain ⟨S', E', B', c', ln', o', ⟨z1, z2, z3, z4⟩, z5⟩ := hFF
      have t : ∀ j, 12 ≤ j → j ≤ 15 → w2 j = w j := fun j j0 j1 => by
        rw [hw2, uH_ne (by omega)]
        exact e1 j (fun z => by
          unfold ksP at z
          simp only [List.mem_cons, List.not_mem_nil, or_false] at z
          omega)
      exact ⟨S', E', B', c', ln', o', ⟨(t 12 (by decide) (by decide)).trans z1, (t 13 (by decide) (by decide)).trans z2, (t 14 (by decide) (by decide)).trans z3, (t 15 (by decide) (by decide)).trans z4⟩, z5⟩
    have hR2 : RG w2 (flt (D ++ (if two = true then shC D2 else []))) Sy Ee Ro := e2.mv (fun j j0 j1 => by rw [hw2, uH_ne (by omega)])
    by_cases hft : fit
    · rw [decide_eq_true hft, bZ_t] at X60
      obtain ⟨xn, yn, rfl, rfl, t1, t2, t3, t4, t5, t6, t7, t8, t9⟩ := hfit hft
      have nX : ∀ j, 53 ≤ j → ¬ j ∈ ksX := fun j hj => n53 (by decide) hj
      obtain ⟨r, w', C', s1, s2, s3, s4, s5⟩ := A59 (N := N) d hN two ha hb (hf.mv (w' := w2) (fun j j0 _ => F2 j (nX j (by omega)))) (fun z => (hf2 z).mv (w' := w2) (fun j j0 _ => F2 j (nX j (by omega)))) hR2 hFF2 xn yn t1 t2 hd2 t3 t4 (by rw [flt_app, List.length_append]; omega) (fun z => by rw [if_pos z, flt_app, List.length_append, flt_shC, ren_len]; omega) t5 t6 lv7 C7 k0 k2_ k4 k7
      rw [t7, t8, t9] at s3
      refine ⟨r, w', C', F2.tr s1, s2, s3.fit hft, s4, e3 _ (Gx.run 60 X60 (fun X mm => ?_) s5)⟩
      simp (disch := first | (refine c1_id ?_; assumption) | (refine c1_st rfl ?_; repeat (first | assumption | refine c1_st rfl ?_)) | omega) [nx_l, nx_r, nx_n, x_st, x_push, x_bin, x_div, x_un, x_dup, x_pop, x_dup2, x_goto, x_ifeq, x_ifne, x_iflt, x_ifge, x_ifgt, x_ifle, x_iceq, x_icne, x_iclt, x_icge, x_icgt, x_icle, x_ifnull, x_ifnonnull, x_ldi, x_lda, x_sti, x_sta, x_iinc, x_gf, x_pf, x_ald, x_ast, x_aln, x_len, x_cl_, x_cv, x_cs, x_rc, x_r0, x_isT, x_oi, x_rv, x_ri, x_ra, Value.category, t59_0, t59_1, t59_4, t59_6, t59_7, t59_10, t59_11, t59_14, t59_16, t59_19, t59_20, t59_23, t59_25, t59_27, t59_30, t59_31, t59_34, t59_37, t59_38, t59_39, t59_40, t59_41, t59_43, t59_45, t59_47, t59_50, t59_53, t59_55, t59_56, t59_57, t59_60, t59_61, t59_64, t59_65, t59_68, t59_71, t59_74, t59_76, t59_77, t59_78, t59_81, t59_84, t59_85, t59_86, t59_87, t59_90, t59_93, t59_95, t59_98, t59_99, t59_101, t59_102, t59_105, t59_108, t59_111, t59_112, t59_115, t59_116, t59_118, t59_120, t59_123, t59_124, t59_127, t59_130, t59_132, t59_135, t59_136, t59_139, t59_141, lk_s, hp_get, hp_set, uH_at, uH_ne, uH_upd, uH_swap, iZ_add, iZ_sub, iZ_mul, iZ_neg, iZ_lt, iZ_le, iZ_eq, iZ_div, iZ_of, ix_Z, gZ_map, gZ_mapI, gZ_map', le_0, le_s, sZ_map, sZ_len, bZ_0, bZ_inj, bZ_t, bZ_f, nr_i, nr_0, nr_1, nr_b, ft_i, ft_b, ft_0, ft_1, zl_0, zl_1, zl_5, zl_6, zl_7, zl_26, k0, k1, k2_, k3, k4, k5, k6, hd1, mm, dO, -List.filter_filter, -List.getElem?_map, -List.getD_eq_getElem?_getD]
    · rw [decide_eq_false hft, bZ_f] at X60
      refine ⟨-5, w2, [], F2, ⟨⟨_, _, _, _, _, _, hd2⟩, hFF2, hR2.gi⟩, Or.inl ⟨hft, rfl⟩, fun z => absurd z (by decide), e3 _ (Gx.fin 60 X60 (fun X mm => ?_))⟩
      simp (disch := first | (refine c1_id ?_; assumption) | (refine c1_st rfl ?_; repeat (first | assumption | refine c1_st rfl ?_)) | omega) [nx_l, nx_r, nx_n, x_st, x_push, x_bin, x_div, x_un, x_dup, x_pop, x_dup2, x_goto, x_ifeq, x_ifne, x_iflt, x_ifge, x_ifgt, x_ifle, x_iceq, x_icne, x_iclt, x_icge, x_icgt, x_icle, x_ifnull, x_ifnonnull, x_ldi, x_lda, x_sti, x_sta, x_iinc, x_gf, x_pf, x_ald, x_ast, x_aln, x_len, x_cl_, x_cv, x_cs, x_rc, x_r0, x_isT, x_oi, x_rv, x_ri, x_ra, Value.category, t59_0, t59_1, t59_4, t59_6, t59_7, t59_10, t59_11, t59_14, t59_16, t59_19, t59_20, t59_23, t59_25, t59_27, t59_30, t59_31, t59_34, t59_37, t59_38, t59_39, t59_40, t59_41, t59_43, t59_45, t59_47, t59_50, t59_53, t59_55, t59_56, t59_57, t59_60, t59_61, t59_64, t59_65, t59_68, t59_71, t59_74, t59_76, t59_77, t59_78, t59_81, t59_84, t59_85, t59_86, t59_87, t59_90, t59_93, t59_95, t59_98, t59_99, t59_101, t59_102, t59_105, t59_108, t59_111, t59_112, t59_115, t59_116, t59_118, t59_120, t59_123, t59_124, t59_127, t59_130, t59_132, t59_135, t59_136, t59_139, t59_141, lk_s, hp_get, hp_set, uH_at, uH_ne, uH_upd, uH_swap, iZ_add, iZ_sub, iZ_mul, iZ_neg, iZ_lt, iZ_le, iZ_eq, iZ_div, iZ_of, ix_Z, gZ_map, gZ_mapI, gZ_map', le_0, le_s, sZ_map, sZ_len, bZ_0, bZ_inj, bZ_t, bZ_f, nr_i, nr_0, nr_1, nr_b, ft_i, ft_b, ft_0, ft_1, zl_0, zl_1, zl_5, zl_6, zl_7, zl_26, k0, k1, k2_, k3, k4, k5, k6, hd1, mm, dO, -List.filter_filter, -List.getElem?_map, -List.getD_eq_getElem?_getD]
  obtain ⟨r, w', C', s1, s2, s3, s4, s5⟩ := key
  exact ⟨r, w', C', s1, s2, s3, s4, Xc.of rfl (by simp [lg_sl, Value.category]) s5 (di_le s1 hDI s2)⟩
end DF
