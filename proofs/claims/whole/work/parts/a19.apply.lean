/-! the class: apply, once a rule has chosen -/

theorem st_inj {D : List (Int × List Int)} (hT : ∀ y ∈ D, 0 < y.2.length) {p q : Nat} (h1 : p < D.length) (h2 : q < D.length) (e : stC D p = stC D q) : p = q := by
  have key : ∀ {p q : Nat}, p < D.length → p < q → stC D p < stC D q := fun {p q} h1 h => by
    have := hT _ (lC_mem h1)
    have s := stC_succ h1
    have := stC_mono (C := D) (show p + 1 ≤ q from h)
    omega
  rcases Nat.lt_trichotomy p q with h | h | h
  · have := key h1 h
    omega
  · exact h
  · have := key h2 h
    omega
theorem ltP_oth {P : List Int} {pl fi f1 f2 : Int} {sh : Nat} {D D' : List (Int × List Int)} {but : Int} (h : ∀ q : Nat, q < D.length → ((((sh + stC D q : Nat) : Int) = f1 ∨ ((sh + stC D q : Nat) : Int) = f2) ↔ (q : Int) = but)) (hA : ∀ q : Nat, q < D.length → (q : Int) ≠ but → ((lC D q).1, atP P pl fi (sh + stC D q) (sh + stC D (q + 1))) = lC D' q) (hl : D'.length = D.length) : ∀ r q : Nat, q + r = D.length → ltP P pl fi f1 f2 sh D r q = oth but q (D'.drop q)
  | 0, q, e => by
    rw [List.drop_eq_nil_of_le (by omega)]
    rfl
  | r + 1, q, e => by
    have ih := ltP_oth h hA hl r (q + 1) (by omega)
    rw [show ((q + 1 : Nat) : Int) = (q : Int) + 1 by omega] at ih
    have hq : q < D.length := by omega
    rw [drop_lC (D := D') (k := q) (by omega)]
    show (if _ then _ else _) = (if (q : Int) = but then _ else _)
    by_cases hb : (q : Int) = but
    · rw [if_pos ((h q hq).mpr hb), if_pos hb, ih]
    · rw [if_neg (fun z => hb ((h q hq).mp z)), if_neg hb, hA q hq hb, ih]
theorem ltP_rew {P : List Int} {pl fi f1 f2 : Int} {sh : Nat} {D D' : List (Int × List Int)} {l : Int} {y : List Int} (h : ∀ q : Nat, q < D.length → ¬ (((sh + stC D q : Nat) : Int) = f1 ∨ ((sh + stC D q : Nat) : Int) = f2)) (hA : ∀ q : Nat, q < D.length → ((lC D q).1, atP P pl fi (sh + stC D q) (sh + stC D (q + 1))) = if (q : Int) = l then ((lC D' q).1, y) else lC D' q) (hl : D'.length = D.length) : ∀ r q : Nat, q + r = D.length → ltP P pl fi f1 f2 sh D r q = rew l y q (D'.drop q)
  | 0, q, e => by
    rw [List.drop_eq_nil_of_le (by omega)]
    rfl
  | r + 1, q, e => by
    have ih := ltP_rew h hA hl r (q + 1) (by omega)
    rw [show ((q + 1 : Nat) : Int) = (q : Int) + 1 by omega] at ih
    have hq : q < D.length := by omega
    rw [drop_lC (D := D') (k := q) (by omega)]
    show (if _ then _ else _) = (if (q : Int) = l then _ else _) :: _
    rw [if_neg (h q hq), hA q hq, ih]
theorem ltP_mem {P : List Int} {pl fi f1 f2 : Int} {sh : Nat} {D : List (Int × List Int)} : ∀ (r q : Nat), ∀ y ∈ ltP P pl fi f1 f2 sh D r q, ∀ s ∈ y.2, s ∈ P
  | 0, q, y, hy, s, hs => by cases hy
  | r + 1, q, y, hy, s, hs => by
    unfold ltP at hy
    split at hy
    · exact ltP_mem r (q + 1) y hy s hs
    · rcases List.mem_cons.mp hy with rfl | hy
      · exact atP_mem s hs
      · exact ltP_mem r (q + 1) y hy s hs
theorem lC_appR {C D : List (Int × List Int)} {k : Nat} : lC (C ++ D) (C.length + k) = lC D k := by
  unfold lC
  rw [List.getD_eq_getElem?_getD, List.getElem?_append_right (by omega), Nat.add_sub_cancel_left, List.getD_eq_getElem?_getD]
theorem stC_appR {C D : List (Int × List Int)} {k : Nat} : stC (C ++ D) (C.length + k) = (flt C).length + stC D k := by
  unfold stC
  rw [List.take_length_add_append, flt_app, List.length_append]
theorem segL {C : List (Int × List Int)} {q : Nat} (hq : q < C.length) : seg (flt C) ((stC C q : Nat) : Int) ((stC C (q + 1) : Nat) : Int) = (lC C q).2 := by
  rw [stC_succ hq, show ((stC C q + (lC C q).2.length : Nat) : Int) = (stC C q : Int) + (lC C q).2.length by omega]
  exact flt_seg hq
theorem gC.gv {D : List (Int × List Int)} (h : gC D) : gV D := fun y hy => ⟨(h.2.2 y hy).1, fun s hs => by
  have := (h.2.2 y hy).2.2 s hs
  exact ⟨this.1, this.2.1, fun z => by have := this.2.2 z; omega⟩⟩
theorem gC.ne {D : List (Int × List Int)} (h : gC D) : ∀ y ∈ D, 0 < y.2.length := fun y hy => by
  have := (h.2.2 y hy).2.1
  cases hh : y.2 with
  | nil =>
    rw [hh] at this
    exact absurd this (by simp [Ts])
  | cons s t => simp
/-- a form that holds a right clause -/
def FM (w : Nat → xC) (N a : Nat) (S E B : List Int) (D : List (Int × List Int)) (o : Int) : Prop := fo w a S E B D.length (flt D).length o ∧ fN N a S E B ∧ FW D S E B ∧ gC D ∧ (flt D).length ≤ S.length ∧ D.length ≤ E.length ∧ D.length ≤ B.length
theorem FM.mv {w w' : Nat → xC} {N a : Nat} {S E B : List Int} {D : List (Int × List Int)} {o : Int} (h : FM w N a S E B D o) (f : ∀ j, a ≤ j → j ≤ a + 3 → w' j = w j) : FM w' N a S E B D o := by
  obtain ⟨⟨h1, h2, h3, h4⟩, h5⟩ := h
  exact ⟨⟨(f a (by omega) (by omega)).trans h1, (f (a + 1) (by omega) (by omega)).trans h2, (f (a + 2) (by omega) (by omega)).trans h3, (f (a + 3) (by omega) (by omega)).trans h4⟩, h5⟩
theorem GS.gin {l : Int} {w w' : Nat → xC} (h : GIn w) (g : GS l w') (f : Fr ksD w w') : GIn w' := by
  obtain ⟨l0, wt, Sy, Ee, Ro, Fs, Fi, Os, Ot, g1, g2, g3, g4, g5, g6, g7, g8, g9, g10, g11, g12, g13, g14, g15, g16, g17⟩ := h
  obtain ⟨wt', Os', k1, k2, k3⟩ := g
  exact ⟨l, wt', Sy, Ee, Ro, Fs, Fi, Os', Ot, k1, (f 17 (by decide)).trans g2, g3, (f 18 (by decide)).trans g4, g5, (f 19 (by decide)).trans g6, g7, g8, (f 20 (by decide)).trans g9, g10, (f 21 (by decide)).trans g11, g12, g13, k2, k3, (f 23 (by decide)).trans g16, g17⟩
theorem ksD_X : ∀ j, j ∈ ksD → j ∈ ksX := by decide
section DE
variable {N : Nat} {w : Nat → xC} {D D2 : List (Int × List Int)} {a b : Nat} {S E B S2 E2 B2 : List Int} {o o2 : Int} {P Sy Ee Ro : List Int} {f1 f2 pl fi : Int}
set_option maxHeartbeats 1000000 in
theorem A59 (d : Nat) (hN : 53 ≤ N) (two : Bool) (ha : 53 ≤ a) (hb : 53 ≤ b) (hf : FM w N a S E B D o) (hf2 : two = true → FM w N b S2 E2 B2 D2 o2) (hR : RG w P Sy Ee Ro) (hFF : FF w) (x y : Nat) (hx : x < P.length) (hy : y < P.length) (hd : w 11 = dO x y f1 f2 pl fi) (f12 : (-1 ≤ f1 ∧ f1 < 100) ∧ (-1 ≤ f2 ∧ f2 < 100)) (pr : -1 ≤ pl ∧ pl < 100) (hsh : (flt D).length ≤ P.length) (hsh2 : two = true → (flt D).length + (flt D2).length ≤ P.length)
    (hpl : ∀ q, q < D.length → ((0 + stC D q : Nat) : Int) ≤ pl → pl < ((0 + stC D (q + 1) : Nat) : Int) → ∃ p f : Nat, pl = p ∧ fi = f ∧ f < P.length ∧ p + (tm P p).length ≤ 0 + stC D (q + 1))
    (hpl2 : two = true → ∀ q, q < D2.length → (((flt D).length + stC D2 q : Nat) : Int) ≤ pl → pl < (((flt D).length + stC D2 (q + 1) : Nat) : Int) → ∃ p f : Nat, pl = p ∧ fi = f ∧ f < P.length ∧ p + (tm P p).length ≤ (flt D).length + stC D2 (q + 1))
    (lv : xL) (hc : c1 lv) (l0 : x_lk lv 0 = some (.ref 14)) (l2 : x_lk lv 2 = some (.ref (a + 3))) (l4 : x_lk lv 4 = some (.ref (b + 3))) (l7 : x_lk lv 7 = some (.int (iZ (bZ two)))) :
    ∃ (r : Int) (w' : Nat → xC) (C' : List (Int × List Int)), Fr ksX w w' ∧ DI w' ∧ RZ True (tm P x) (tm P y) (ltP P pl fi f1 f2 0 D D.length 0 ++ (if two = true then ltP P pl fi f1 f2 (flt D).length D2 D2.length 0 else [])) r C' ∧ (r = 0 → LB w' C') ∧ Gx q_k59 (d + 5) 56 (lv, [], hp w N) (some (.int (iZ r)), hp w' N) := by
  have hR' := hR
  obtain ⟨⟨wt, r1⟩, r2, r3, r4, r5, r6, r7, r8, r9, r10, ⟨Fs, r11, r12⟩, ⟨Fi, r13, r14, r15⟩, ⟨Os, r16, r17⟩, ⟨Ot, r18, r19⟩, r20, r21⟩ := hR'
  obtain ⟨Ro', Fi', Os', Ot', wt', bb, u1, u2, u3, u4, u5, u6, u7, u8, u9⟩ := m44r (N := N) (d + 1) hN r2 r1 r3 r4 r5 r6 r7 r8 r9 r13 r14 r15 r16 r18 r17 r19 x y (r10 x y hx hy)
  obtain ⟨w1, hw1⟩ : ∃ w1, w1 = uH (uH (uH (uH (uH w 16 (gO P.length wt')) 19 (cI 0 Ro')) 21 (cI 1 Fi')) 22 (cI 0 Os')) 23 (cI 0 Ot') := ⟨_, rfl⟩
  have u6 : Xc (d + 5) 44 [.ref 19, .int (iZ x), .int (iZ y)] (hp w N) (some (.int (iZ (bZ bb))), hp w1 N) := by
    rw [hw1]
    exact u6
  have F1 : Fr [16, 19, 21, 22, 23] w w1 := by
    rw [hw1]
    exact (((((Fr.rf _ _).up (by decide)).up (by decide)).up (by decide)).up (by decide)).up (by decide)
  have e16 : w1 16 = gO P.length wt' := by rw [hw1, uH_ne (by decide), uH_ne (by decide), uH_ne (by decide), uH_ne (by decide), uH_at]
  have e19 : w1 19 = cI 0 Ro' := by rw [hw1, uH_ne (by decide), uH_ne (by decide), uH_ne (by decide), uH_at]
  have e21 : w1 21 = cI 1 Fi' := by rw [hw1, uH_ne (by decide), uH_ne (by decide), uH_at]
  have e22 : w1 22 = cI 0 Os' := by rw [hw1, uH_ne (by decide), uH_at]
  have e23 : w1 23 = cI 0 Ot' := by rw [hw1, uH_at]
  have F1X : Fr ksX w w1 := F1.sub (by decide)
  have hFF1 : FF w1 := by
    obtain ⟨S', E', B', c', ln', o', ⟨z1, z2, z3, z4⟩, z5⟩ := hFF
    exact ⟨S', E', B', c', ln', o', ⟨(F1 12 (by decide)).trans z1, (F1 13 (by decide)).trans z2, (F1 14 (by decide)).trans z3, (F1 15 (by decide)).trans z4⟩, z5⟩
  have hd1 : w1 11 = dO x y f1 f2 pl fi := (F1 11 (by decide)).trans hd
  have hI1 : GIn w1 := ⟨P.length, wt', Sy, Ee, Ro', Fs, Fi', Os', Ot', e16, (F1 17 (by decide)).trans r3, r2.2.2.1, (F1 18 (by decide)).trans r4, r5, e19, u1, u7, (F1 20 (by decide)).trans r11, r12, e21, u2, u5, e22, u3, e23, u4⟩
  have hx8 : (x : Int) < 100 := by have := r2.2.1; omega
  have hy8 : (y : Int) < 100 := by have := r2.2.1; omega
  obtain ⟨xx, hxx⟩ : ∃ xx : Int, xx = (x : Int) := ⟨_, rfl⟩
  obtain ⟨yy, hyy⟩ : ∃ yy : Int, yy = (y : Int) := ⟨_, rfl⟩
  rw [← hxx, ← hyy] at u6 hd hd1
  cases bb with
  | false =>
    refine ⟨-6, w1, [], F1X, ⟨⟨_, _, _, _, _, _, hd1⟩, hFF1, hI1⟩, Or.inr (Or.inl ⟨trivial, u9 rfl, rfl⟩), fun z => absurd z (by decide), ?_⟩
    refine Gx.fin 40 u6 (fun X mm => ?_)
    rw [bZ_f] at mm
    simp (disch := first | (refine c1_id ?_; assumption) | (refine c1_st rfl ?_; repeat (first | assumption | refine c1_st rfl ?_)) | omega) [nx_l, nx_r, nx_n, x_st, x_push, x_bin, x_div, x_un, x_dup, x_pop, x_dup2, x_goto, x_ifeq, x_ifne, x_iflt, x_ifge, x_ifgt, x_ifle, x_iceq, x_icne, x_iclt, x_icge, x_icgt, x_icle, x_ifnull, x_ifnonnull, x_ldi, x_lda, x_sti, x_sta, x_iinc, x_gf, x_pf, x_ald, x_ast, x_aln, x_len, x_cl_, x_cv, x_cs, x_rc, x_r0, x_isT, x_oi, x_rv, x_ri, x_ra, Value.category, t59_0, t59_1, t59_4, t59_6, t59_7, t59_10, t59_11, t59_14, t59_16, t59_19, t59_20, t59_23, t59_25, t59_27, t59_30, t59_31, t59_34, t59_37, t59_38, t59_39, t59_40, t59_41, t59_43, t59_45, t59_47, t59_50, t59_53, t59_55, t59_56, t59_57, t59_60, t59_61, t59_64, t59_65, t59_68, t59_71, t59_74, t59_76, t59_77, t59_78, t59_81, t59_84, t59_85, t59_86, t59_87, t59_90, t59_93, t59_95, t59_98, t59_99, t59_101, t59_102, t59_105, t59_108, t59_111, t59_112, t59_115, t59_116, t59_118, t59_120, t59_123, t59_124, t59_127, t59_130, t59_132, t59_135, t59_136, t59_139, t59_141, lk_s, hp_get, hp_set, uH_at, uH_ne, uH_upd, uH_swap, iZ_add, iZ_sub, iZ_mul, iZ_neg, iZ_lt, iZ_le, iZ_eq, iZ_div, iZ_of, ix_Z, gZ_map, gZ_mapI, gZ_map', le_0, le_s, sZ_map, sZ_len, bZ_0, bZ_inj, bZ_t, bZ_f, nr_i, nr_0, nr_1, nr_b, ft_i, ft_b, ft_0, ft_1, zl_0, zl_1, zl_5, zl_6, zl_7, zl_26, l0, hd, r1, mm, dO, gO, -List.filter_filter, -List.getElem?_map, -List.getD_eq_getElem?_getD]
  | true =>
    obtain ⟨fd, rk, K, v1, v2, v3⟩ := u8 rfl
    have hB1 : GB w1 P Sy Ee Ro' P.length fd rk K := ⟨(F1 17 (by decide)).trans r3, (F1 18 (by decide)).trans r4, r5, r6, e19, u1, v2, r2, v1, r20, r21⟩
    have hG1 : GS P.length w1 := ⟨wt', Os', e16, e22, u3⟩
    obtain ⟨S3, E3, B3, c3, ln3, o3, z0, zS, zE, zB⟩ := hFF1
    have X10 := m10 (N := N) (d + 4) z0 ⟨by omega, by omega, by omega, by omega⟩
    obtain ⟨w2, hw2⟩ : ∃ w2, w2 = uH w1 12 (fC 12 0 0 o3) := ⟨_, rfl⟩
    rw [← hw2] at X10
    have F2 : Fr ksD w1 w2 := by rw [hw2]; exact (Fr.rf _ _).up (by decide)
    have hL2 : LB w2 [] := ⟨S3, E3, B3, o3, ⟨by rw [hw2, uH_at]; rfl, by rw [hw2, uH_ne (by decide)]; exact z0.2.1, by rw [hw2, uH_ne (by decide)]; exact z0.2.2.1, by rw [hw2, uH_ne (by decide)]; exact z0.2.2.2⟩, zS, zE, zB, ⟨fun j hj => absurd hj (Nat.not_lt_zero _), fun j hj => absurd hj (Nat.not_lt_zero _), fun j hj => absurd hj (Nat.not_lt_zero _)⟩, fun y hy => (by cases hy), by decide, by decide⟩
    have hz12 := z0.1
    have hG2 : GS P.length w2 := by
      refine ⟨wt', Os', ?_, ?_, u3⟩
      · rw [hw2, uH_ne (by decide)]; exact e16
      · rw [hw2, uH_ne (by decide)]; exact e22
    have hB2 := hB1.mvD F2
    have nD : ∀ j, 53 ≤ j → ¬ j ∈ ksD := fun j hj z => by
      unfold ksD at z
      simp only [List.mem_cons, List.not_mem_nil, or_false] at z
      omega
    have nX : ∀ j, 53 ≤ j → ¬ j ∈ ksX := fun j hj z => by
      unfold ksX at z
      simp only [List.mem_cons, List.not_mem_nil, or_false] at z
      omega
    have F12X : Fr ksX w w2 := F1X.tr (F2.sub ksD_X)
    have hd2 : w2 11 = dO xx yy f1 f2 pl fi := (F2 11 (by decide)).trans hd1
    obtain ⟨m1, m2, m3, m4, m5, m6, m7⟩ := hf.mv (w' := w2) (fun j j0 _ => F12X j (nX j (by omega)))
    have hfa := m1.1
    obtain ⟨L, hL⟩ : ∃ L, L = ltP P pl fi f1 f2 0 D D.length 0 ++ (if two = true then ltP P pl fi f1 f2 (flt D).length D2 D2.length 0 else []) := ⟨_, rfl⟩
    have hLm : ∀ y ∈ L, ∀ s ∈ y.2, s ∈ P := by
      rw [hL]
      intro y hy
      rcases List.mem_append.mp hy with hy | hy
      · exact ltP_mem _ _ y hy
      · split at hy
        · exact ltP_mem _ _ y hy
        · cases hy
    obtain ⟨cm1, cm2⟩ := cp_md hB2 hLm
    have gin : ∀ {v : Nat → xC}, Fr ksD w2 v → GS P.length v → FF v → DI v := fun {v} fv gv ff => ⟨⟨_, _, _, _, _, _, (fv 11 (by decide)).trans hd2⟩, ff, GS.gin hI1 gv (F2.tr fv)⟩
    rw [← hL]
    have RZm : ∀ {r : Int} {C' : List (Int × List Int)}, ((mdC L (sg P fd K) = none ∧ r = -7) ∨ (mdC L (sg P fd K) = some C' ∧ r = 0)) → RZ True (tm P x) (tm P y) L r C' := fun h => Or.inr (Or.inr ⟨trivial, _, v3, h⟩)
    obtain ⟨k1, k2⟩ := m65 (N := N) d hN 0 (fun j j0 _ => nD j (by omega)) m2 m3 m6 m7 m4.gv m4.1 f12 pr (by omega) hpl m1 hd2 hL2 hG2 hB2
    -- from 56 to 90
    have g56 : ∀ {v : Nat → xC} {q : Int} (res : Option Value × xH), Xc (d + 5) 65 [.ref 14, .ref (a + 3), .int (iZ ((0 : Nat) : Int))] (hp w2 N) (some (.int (iZ q)), hp v N) → Gx q_k59 (d + 5) 90 (lv, [.int (iZ q)], hp v N) res → Gx q_k59 (d + 5) 56 (lv, [], hp w N) res := fun {v q} res X hres => by
      refine Gx.run 60 ((u6.and X10).and X) (fun C mm => ?_) hres
      obtain ⟨⟨mm1, mm2⟩, mm3⟩ := mm
      rw [bZ_t] at mm1
      rw [show (((0 : Nat) : Int)) = 0 from rfl] at mm3
      simp (disch := first | (refine c1_id ?_; assumption) | (refine c1_st rfl ?_; repeat (first | assumption | refine c1_st rfl ?_)) | omega) [nx_l, nx_r, nx_n, x_st, x_push, x_bin, x_div, x_un, x_dup, x_pop, x_dup2, x_goto, x_ifeq, x_ifne, x_iflt, x_ifge, x_ifgt, x_ifle, x_iceq, x_icne, x_iclt, x_icge, x_icgt, x_icle, x_ifnull, x_ifnonnull, x_ldi, x_lda, x_sti, x_sta, x_iinc, x_gf, x_pf, x_ald, x_ast, x_aln, x_len, x_cl_, x_cv, x_cs, x_rc, x_r0, x_isT, x_oi, x_rv, x_ri, x_ra, Value.category, t59_0, t59_1, t59_4, t59_6, t59_7, t59_10, t59_11, t59_14, t59_16, t59_19, t59_20, t59_23, t59_25, t59_27, t59_30, t59_31, t59_34, t59_37, t59_38, t59_39, t59_40, t59_41, t59_43, t59_45, t59_47, t59_50, t59_53, t59_55, t59_56, t59_57, t59_60, t59_61, t59_64, t59_65, t59_68, t59_71, t59_74, t59_76, t59_77, t59_78, t59_81, t59_84, t59_85, t59_86, t59_87, t59_90, t59_93, t59_95, t59_98, t59_99, t59_101, t59_102, t59_105, t59_108, t59_111, t59_112, t59_115, t59_116, t59_118, t59_120, t59_123, t59_124, t59_127, t59_130, t59_132, t59_135, t59_136, t59_139, t59_141, lk_s, hp_get, hp_set, uH_at, uH_ne, uH_upd, uH_swap, iZ_add, iZ_sub, iZ_mul, iZ_neg, iZ_lt, iZ_le, iZ_eq, iZ_div, iZ_of, ix_Z, gZ_map, gZ_mapI, gZ_map', le_0, le_s, sZ_map, sZ_len, bZ_0, bZ_inj, bZ_t, bZ_f, nr_i, nr_0, nr_1, nr_b, ft_i, ft_b, ft_0, ft_1, zl_0, zl_1, zl_5, zl_6, zl_7, zl_26, l0, l2, hd, hd1, hd2, r1, hz12, mm1, mm2, mm3, dO, gO, -List.filter_filter, -List.getElem?_map, -List.getD_eq_getElem?_getD]
    have g115 : ∀ {v : Nat → xC}, Gx q_k59 (d + 5) 115 (lv, [], hp v N) (some (.int (iZ (-7))), hp v N) := fun {v} => by
      refine Gx.fin 20 Cs.tt (fun C _ => ?_)
      simp (disch := first | (refine c1_id ?_; assumption) | (refine c1_st rfl ?_; repeat (first | assumption | refine c1_st rfl ?_)) | omega) [nx_l, nx_r, nx_n, x_st, x_push, x_bin, x_div, x_un, x_dup, x_pop, x_dup2, x_goto, x_ifeq, x_ifne, x_iflt, x_ifge, x_ifgt, x_ifle, x_iceq, x_icne, x_iclt, x_icge, x_icgt, x_icle, x_ifnull, x_ifnonnull, x_ldi, x_lda, x_sti, x_sta, x_iinc, x_gf, x_pf, x_ald, x_ast, x_aln, x_len, x_cl_, x_cv, x_cs, x_rc, x_r0, x_isT, x_oi, x_rv, x_ri, x_ra, Value.category, t59_0, t59_1, t59_4, t59_6, t59_7, t59_10, t59_11, t59_14, t59_16, t59_19, t59_20, t59_23, t59_25, t59_27, t59_30, t59_31, t59_34, t59_37, t59_38, t59_39, t59_40, t59_41, t59_43, t59_45, t59_47, t59_50, t59_53, t59_55, t59_56, t59_57, t59_60, t59_61, t59_64, t59_65, t59_68, t59_71, t59_74, t59_76, t59_77, t59_78, t59_81, t59_84, t59_85, t59_86, t59_87, t59_90, t59_93, t59_95, t59_98, t59_99, t59_101, t59_102, t59_105, t59_108, t59_111, t59_112, t59_115, t59_116, t59_118, t59_120, t59_123, t59_124, t59_127, t59_130, t59_132, t59_135, t59_136, t59_139, t59_141, lk_s, hp_get, hp_set, uH_at, uH_ne, uH_upd, uH_swap, iZ_add, iZ_sub, iZ_mul, iZ_neg, iZ_lt, iZ_le, iZ_eq, iZ_div, iZ_of, ix_Z, gZ_map, gZ_mapI, gZ_map', le_0, le_s, sZ_map, sZ_len, bZ_0, bZ_inj, bZ_t, bZ_f, nr_i, nr_0, nr_1, nr_b, ft_i, ft_b, ft_0, ft_1, zl_0, zl_1, zl_5, zl_6, zl_7, zl_26, -List.filter_filter, -List.getElem?_map, -List.getD_eq_getElem?_getD]
    -- the end, when the literals stand
    have fin : ∀ {v : Nat → xC} {C : List (Int × List Int)}, Fr ksD w2 v → GS P.length v → LB v C → cpC [] (L.map (litV P fd K)) = some C → ∃ (r : Int) (w' : Nat → xC) (C' : List (Int × List Int)), Fr ksX w w' ∧ DI w' ∧ RZ True (tm P x) (tm P y) L r C' ∧ (r = 0 → LB w' C') ∧ Gx q_k59 (d + 5) 111 (lv, [], hp v N) (some (.int (iZ r)), hp w' N) := fun {v C} fv gv hLv hcp => by
      obtain ⟨q1, q2⟩ := e59 (N := N) (d + 3) hN hLv ((fv 11 (by decide)).trans hd2) lv hc l0
      have em := cm2 C hcp
      by_cases h26 : (fvs [] (flt C)).length ≤ 26
      · rw [if_pos h26] at em
        obtain ⟨w', p1, p2, p3⟩ := q1 h26
        have fD : Fr ksD w2 w' := fv.tr (p1.sub (by decide))
        have gS : GS P.length w' := by
          obtain ⟨wt3, Os3, t1, t2, t3⟩ := gv
          exact ⟨wt3, Os3, (p1 16 (by decide)).trans t1, (p1 22 (by decide)).trans t2, t3⟩
        exact ⟨0, w', rnD C, F12X.tr (fD.sub ksD_X), gin fD gS p2.ff, RZm (Or.inr ⟨em, rfl⟩), fun _ => p2, p3⟩
      · rw [if_neg h26] at em
        obtain ⟨w', p1, p2, p3⟩ := q2 h26
        have fD : Fr ksD w2 w' := fv.tr (p1.sub (by decide))
        have gS : GS P.length w' := by
          obtain ⟨wt3, Os3, t1, t2, t3⟩ := gv
          exact ⟨wt3, Os3, (p1 16 (by decide)).trans t1, (p1 22 (by decide)).trans t2, t3⟩
        exact ⟨-7, w', [], F12X.tr (fD.sub ksD_X), gin fD gS p2, RZm (Or.inl ⟨em, rfl⟩), fun z => absurd z (by decide), p3⟩
    cases hcp : cpC [] ((ltP P pl fi f1 f2 0 D D.length 0).map (litV P fd K)) with
    | none =>
      obtain ⟨v, t1, t2, t3, t4⟩ := k2 hcp
      have em : mdC L (sg P fd K) = none := cm1 (by rw [hL, List.map_append, cpC_app, hcp]; rfl)
      refine ⟨-7, v, [], F12X.tr (t1.sub ksD_X), gin t1 t3 t2, RZm (Or.inl ⟨em, rfl⟩), fun z => absurd z (by decide), g56 _ t4 ?_⟩
      refine Gx.run 20 Cs.tt (fun C _ => ?_) g115
      simp (disch := first | (refine c1_id ?_; assumption) | (refine c1_st rfl ?_; repeat (first | assumption | refine c1_st rfl ?_)) | omega) [nx_l, nx_r, nx_n, x_st, x_push, x_bin, x_div, x_un, x_dup, x_pop, x_dup2, x_goto, x_ifeq, x_ifne, x_iflt, x_ifge, x_ifgt, x_ifle, x_iceq, x_icne, x_iclt, x_icge, x_icgt, x_icle, x_ifnull, x_ifnonnull, x_ldi, x_lda, x_sti, x_sta, x_iinc, x_gf, x_pf, x_ald, x_ast, x_aln, x_len, x_cl_, x_cv, x_cs, x_rc, x_r0, x_isT, x_oi, x_rv, x_ri, x_ra, Value.category, t59_0, t59_1, t59_4, t59_6, t59_7, t59_10, t59_11, t59_14, t59_16, t59_19, t59_20, t59_23, t59_25, t59_27, t59_30, t59_31, t59_34, t59_37, t59_38, t59_39, t59_40, t59_41, t59_43, t59_45, t59_47, t59_50, t59_53, t59_55, t59_56, t59_57, t59_60, t59_61, t59_64, t59_65, t59_68, t59_71, t59_74, t59_76, t59_77, t59_78, t59_81, t59_84, t59_85, t59_86, t59_87, t59_90, t59_93, t59_95, t59_98, t59_99, t59_101, t59_102, t59_105, t59_108, t59_111, t59_112, t59_115, t59_116, t59_118, t59_120, t59_123, t59_124, t59_127, t59_130, t59_132, t59_135, t59_136, t59_139, t59_141, lk_s, hp_get, hp_set, uH_at, uH_ne, uH_upd, uH_swap, iZ_add, iZ_sub, iZ_mul, iZ_neg, iZ_lt, iZ_le, iZ_eq, iZ_div, iZ_of, ix_Z, gZ_map, gZ_mapI, gZ_map', le_0, le_s, sZ_map, sZ_len, bZ_0, bZ_inj, bZ_t, bZ_f, nr_i, nr_0, nr_1, nr_b, ft_i, ft_b, ft_0, ft_1, zl_0, zl_1, zl_5, zl_6, zl_7, zl_26, -List.filter_filter, -List.getElem?_map, -List.getD_eq_getElem?_getD]
    | some C1 =>
      obtain ⟨v, t1, t2, t3, t4⟩ := k1 C1 hcp
      have hfv : v a = fC a D.length (flt D).length o := by
        rw [t1 a (nD a ha)]
        exact hfa
      have hdv : v 11 = dO xx yy f1 f2 pl fi := (t1 11 (by decide)).trans hd2
      cases two with
      | false =>
        have hLe : L = ltP P pl fi f1 f2 0 D D.length 0 := by
          rw [hL, if_neg (by decide), List.append_nil]
        obtain ⟨r, w', C', s1, s2, s3, s4, s5⟩ := fin t1 t3 t2 (by rw [hLe]; exact hcp)
        refine ⟨r, w', C', s1, s2, s3, s4, g56 _ t4 (Gx.run 20 Cs.tt (fun C _ => ?_) s5)⟩
        rw [bZ_f] at l7
        simp (disch := first | (refine c1_id ?_; assumption) | (refine c1_st rfl ?_; repeat (first | assumption | refine c1_st rfl ?_)) | omega) [nx_l, nx_r, nx_n, x_st, x_push, x_bin, x_div, x_un, x_dup, x_pop, x_dup2, x_goto, x_ifeq, x_ifne, x_iflt, x_ifge, x_ifgt, x_ifle, x_iceq, x_icne, x_iclt, x_icge, x_icgt, x_icle, x_ifnull, x_ifnonnull, x_ldi, x_lda, x_sti, x_sta, x_iinc, x_gf, x_pf, x_ald, x_ast, x_aln, x_len, x_cl_, x_cv, x_cs, x_rc, x_r0, x_isT, x_oi, x_rv, x_ri, x_ra, Value.category, t59_0, t59_1, t59_4, t59_6, t59_7, t59_10, t59_11, t59_14, t59_16, t59_19, t59_20, t59_23, t59_25, t59_27, t59_30, t59_31, t59_34, t59_37, t59_38, t59_39, t59_40, t59_41, t59_43, t59_45, t59_47, t59_50, t59_53, t59_55, t59_56, t59_57, t59_60, t59_61, t59_64, t59_65, t59_68, t59_71, t59_74, t59_76, t59_77, t59_78, t59_81, t59_84, t59_85, t59_86, t59_87, t59_90, t59_93, t59_95, t59_98, t59_99, t59_101, t59_102, t59_105, t59_108, t59_111, t59_112, t59_115, t59_116, t59_118, t59_120, t59_123, t59_124, t59_127, t59_130, t59_132, t59_135, t59_136, t59_139, t59_141, lk_s, hp_get, hp_set, uH_at, uH_ne, uH_upd, uH_swap, iZ_add, iZ_sub, iZ_mul, iZ_neg, iZ_lt, iZ_le, iZ_eq, iZ_div, iZ_of, ix_Z, gZ_map, gZ_mapI, gZ_map', le_0, le_s, sZ_map, sZ_len, bZ_0, bZ_inj, bZ_t, bZ_f, nr_i, nr_0, nr_1, nr_b, ft_i, ft_b, ft_0, ft_1, zl_0, zl_1, zl_5, zl_6, zl_7, zl_26, l7, -List.filter_filter, -List.getElem?_map, -List.getD_eq_getElem?_getD]
      | true =>
        obtain ⟨n1, n2, n3, n4, n5, n6, n7⟩ := (hf2 rfl).mv (w' := v) (fun j j0 _ => ((F12X.tr (t1.sub ksD_X)) j (nX j (by omega))))
        obtain ⟨k3, k4⟩ := m65 (N := N) d hN (flt D).length (fun j j0 _ => nD j (by omega)) n2 n3 n6 n7 n4.gv n4.1 f12 pr (hsh2 rfl) (hpl2 rfl) n1 hdv t2 t3 (hB2.mvD t1)
        obtain ⟨fl, hfl⟩ : ∃ fl : Int, fl = ((flt D).length : Int) := ⟨_, rfl⟩
        have na := m2.1
        rw [← hfl] at k3 k4 hfv
        have hLe : cpC [] (L.map (litV P fd K)) = cpC C1 ((ltP P pl fi f1 f2 (flt D).length D2 D2.length 0).map (litV P fd K)) := by
          rw [hL, if_pos rfl, List.map_append, cpC_app, hcp]
          rfl
        have g90 : ∀ {v2 : Nat → xC} {q : Int} (res : Option Value × xH), Xc (d + 5) 65 [.ref 14, .ref (b + 3), .int (iZ fl)] (hp v N) (some (.int (iZ q)), hp v2 N) → Gx q_k59 (d + 5) 108 (lv, [.int (iZ q)], hp v2 N) res → Gx q_k59 (d + 5) 90 (lv, [.int (iZ 1)], hp v N) res := fun {v2 q} res X hres => by
          refine Gx.run 60 X (fun C mm => ?_) hres
          rw [bZ_t] at l7
          simp (disch := first | (refine c1_id ?_; assumption) | (refine c1_st rfl ?_; repeat (first | assumption | refine c1_st rfl ?_)) | omega) [nx_l, nx_r, nx_n, x_st, x_push, x_bin, x_div, x_un, x_dup, x_pop, x_dup2, x_goto, x_ifeq, x_ifne, x_iflt, x_ifge, x_ifgt, x_ifle, x_iceq, x_icne, x_iclt, x_icge, x_icgt, x_icle, x_ifnull, x_ifnonnull, x_ldi, x_lda, x_sti, x_sta, x_iinc, x_gf, x_pf, x_ald, x_ast, x_aln, x_len, x_cl_, x_cv, x_cs, x_rc, x_r0, x_isT, x_oi, x_rv, x_ri, x_ra, Value.category, t59_0, t59_1, t59_4, t59_6, t59_7, t59_10, t59_11, t59_14, t59_16, t59_19, t59_20, t59_23, t59_25, t59_27, t59_30, t59_31, t59_34, t59_37, t59_38, t59_39, t59_40, t59_41, t59_43, t59_45, t59_47, t59_50, t59_53, t59_55, t59_56, t59_57, t59_60, t59_61, t59_64, t59_65, t59_68, t59_71, t59_74, t59_76, t59_77, t59_78, t59_81, t59_84, t59_85, t59_86, t59_87, t59_90, t59_93, t59_95, t59_98, t59_99, t59_101, t59_102, t59_105, t59_108, t59_111, t59_112, t59_115, t59_116, t59_118, t59_120, t59_123, t59_124, t59_127, t59_130, t59_132, t59_135, t59_136, t59_139, t59_141, lk_s, hp_get, hp_set, uH_at, uH_ne, uH_upd, uH_swap, iZ_add, iZ_sub, iZ_mul, iZ_neg, iZ_lt, iZ_le, iZ_eq, iZ_div, iZ_of, ix_Z, gZ_map, gZ_mapI, gZ_map', le_0, le_s, sZ_map, sZ_len, bZ_0, bZ_inj, bZ_t, bZ_f, nr_i, nr_0, nr_1, nr_b, ft_i, ft_b, ft_0, ft_1, zl_0, zl_1, zl_5, zl_6, zl_7, zl_26, l0, l2, l4, l7, hdv, hfv, mm, dO, fC, -List.filter_filter, -List.getElem?_map, -List.getD_eq_getElem?_getD]
        cases hcp2 : cpC C1 ((ltP P pl fi f1 f2 (flt D).length D2 D2.length 0).map (litV P fd K)) with
        | none =>
          obtain ⟨v2, s1, s2, s3, s4⟩ := k4 hcp2
          have em : mdC L (sg P fd K) = none := cm1 (by rw [hLe]; exact hcp2)
          refine ⟨-7, v2, [], F12X.tr ((t1.tr s1).sub ksD_X), gin (t1.tr s1) s3 s2, RZm (Or.inl ⟨em, rfl⟩), fun z => absurd z (by decide), g56 _ t4 (g90 _ s4 ?_)⟩
          refine Gx.run 20 Cs.tt (fun C _ => ?_) g115
          simp (disch := first | (refine c1_id ?_; assumption) | (refine c1_st rfl ?_; repeat (first | assumption | refine c1_st rfl ?_)) | omega) [nx_l, nx_r, nx_n, x_st, x_push, x_bin, x_div, x_un, x_dup, x_pop, x_dup2, x_goto, x_ifeq, x_ifne, x_iflt, x_ifge, x_ifgt, x_ifle, x_iceq, x_icne, x_iclt, x_icge, x_icgt, x_icle, x_ifnull, x_ifnonnull, x_ldi, x_lda, x_sti, x_sta, x_iinc, x_gf, x_pf, x_ald, x_ast, x_aln, x_len, x_cl_, x_cv, x_cs, x_rc, x_r0, x_isT, x_oi, x_rv, x_ri, x_ra, Value.category, t59_0, t59_1, t59_4, t59_6, t59_7, t59_10, t59_11, t59_14, t59_16, t59_19, t59_20, t59_23, t59_25, t59_27, t59_30, t59_31, t59_34, t59_37, t59_38, t59_39, t59_40, t59_41, t59_43, t59_45, t59_47, t59_50, t59_53, t59_55, t59_56, t59_57, t59_60, t59_61, t59_64, t59_65, t59_68, t59_71, t59_74, t59_76, t59_77, t59_78, t59_81, t59_84, t59_85, t59_86, t59_87, t59_90, t59_93, t59_95, t59_98, t59_99, t59_101, t59_102, t59_105, t59_108, t59_111, t59_112, t59_115, t59_116, t59_118, t59_120, t59_123, t59_124, t59_127, t59_130, t59_132, t59_135, t59_136, t59_139, t59_141, lk_s, hp_get, hp_set, uH_at, uH_ne, uH_upd, uH_swap, iZ_add, iZ_sub, iZ_mul, iZ_neg, iZ_lt, iZ_le, iZ_eq, iZ_div, iZ_of, ix_Z, gZ_map, gZ_mapI, gZ_map', le_0, le_s, sZ_map, sZ_len, bZ_0, bZ_inj, bZ_t, bZ_f, nr_i, nr_0, nr_1, nr_b, ft_i, ft_b, ft_0, ft_1, zl_0, zl_1, zl_5, zl_6, zl_7, zl_26, -List.filter_filter, -List.getElem?_map, -List.getD_eq_getElem?_getD]
        | some C2 =>
          obtain ⟨v2, s1, s2, s3, s4⟩ := k3 C2 hcp2
          obtain ⟨r, w', C', q1, q2, q3, q4, q5⟩ := fin (t1.tr s1) s3 s2 (by rw [hLe]; exact hcp2)
          refine ⟨r, w', C', q1, q2, q3, q4, g56 _ t4 (g90 _ s4 (Gx.run 20 Cs.tt (fun C _ => ?_) q5))⟩
          simp (disch := first | (refine c1_id ?_; assumption) | (refine c1_st rfl ?_; repeat (first | assumption | refine c1_st rfl ?_)) | omega) [nx_l, nx_r, nx_n, x_st, x_push, x_bin, x_div, x_un, x_dup, x_pop, x_dup2, x_goto, x_ifeq, x_ifne, x_iflt, x_ifge, x_ifgt, x_ifle, x_iceq, x_icne, x_iclt, x_icge, x_icgt, x_icle, x_ifnull, x_ifnonnull, x_ldi, x_lda, x_sti, x_sta, x_iinc, x_gf, x_pf, x_ald, x_ast, x_aln, x_len, x_cl_, x_cv, x_cs, x_rc, x_r0, x_isT, x_oi, x_rv, x_ri, x_ra, Value.category, t59_0, t59_1, t59_4, t59_6, t59_7, t59_10, t59_11, t59_14, t59_16, t59_19, t59_20, t59_23, t59_25, t59_27, t59_30, t59_31, t59_34, t59_37, t59_38, t59_39, t59_40, t59_41, t59_43, t59_45, t59_47, t59_50, t59_53, t59_55, t59_56, t59_57, t59_60, t59_61, t59_64, t59_65, t59_68, t59_71, t59_74, t59_76, t59_77, t59_78, t59_81, t59_84, t59_85, t59_86, t59_87, t59_90, t59_93, t59_95, t59_98, t59_99, t59_101, t59_102, t59_105, t59_108, t59_111, t59_112, t59_115, t59_116, t59_118, t59_120, t59_123, t59_124, t59_127, t59_130, t59_132, t59_135, t59_136, t59_139, t59_141, lk_s, hp_get, hp_set, uH_at, uH_ne, uH_upd, uH_swap, iZ_add, iZ_sub, iZ_mul, iZ_neg, iZ_lt, iZ_le, iZ_eq, iZ_div, iZ_of, ix_Z, gZ_map, gZ_mapI, gZ_map', le_0, le_s, sZ_map, sZ_len, bZ_0, bZ_inj, bZ_t, bZ_f, nr_i, nr_0, nr_1, nr_b, ft_i, ft_b, ft_0, ft_1, zl_0, zl_1, zl_5, zl_6, zl_7, zl_26, -List.filter_filter, -List.getElem?_map, -List.getD_eq_getElem?_getD]
end DE
