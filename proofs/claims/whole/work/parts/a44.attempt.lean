/-! the class: a step is tried, to its end -/

section ATU
variable {w : Nat → xC} {N : Nat} {Ds : List (List (Int × List Int) × Bool × Int × Int)} {T U : List Int} {clm cf lf : Int}
def HR (Ds : List (List (Int × List Int) × Bool × Int × Int)) : Prop := ∀ i : Nat, i < Ds.length → 0 ≤ (cl Ds i).2.2.1 ∧ (cl Ds i).2.2.1 ≤ 30 ∧ 0 ≤ (cl Ds i).2.2.2 ∧ (cl Ds i).2.2.2 < 1073741824
set_option maxHeartbeats 1000000 in
/-- the clause is added -/
theorem E83 (d : Nat) (h : CS w N Ds [] U clm cf lf) (h30 : Ds.length < 30) (hR : HR Ds) (rule i k j l p : Int) (i0 : 0 ≤ i) (i1 : i < Ds.length) (hj : rule = 0 ∨ rule = 3 → 0 ≤ j ∧ j < Ds.length) (r0 : 0 ≤ rule) (r4 : rule ≤ 4) (n n2 : Nat) (hn : CLa w N n (cl Ds i.toNat)) (hn2 : two_ rule = true → CLa w N n2 (cl Ds j.toNat)) (hnn : two_ rule = false → n2 = n) (lv : xL) (hl : lv83 lv rule i k j l p) (l7 : x_lk lv 7 = some (.ref (n + 3))) (l8 : x_lk lv 8 = some (.ref (n2 + 3))) {C : List (Int × List Int)} (hL : LA w (if rule = 4 then 7 else 12) C) (hg : gC C) (h9 : no9 C) (ok : (ntC C (U, false)).2 = false) :
    ∃ (w' : Nat → xC) (N' : Nat), N ≤ N' ∧ N' ≤ N + 206 ∧ CS w' N' (Ds ++ [(C, false, dpS Ds rule i j + 1, ndS Ds rule i j)]) [] (ntC C (U, false)).1 clm cf lf ∧ (∀ j, 27 ≤ j → j < N → w' j = w j) ∧ Gx q_k83 (d + 54) 159 (lv, [], hp w N) (some (.int (iZ 0)), hp w' N') := by
  have c0 := h.1
  have hN := h.2.2.2.2.2.2.2.2.2.2.2.1
  obtain ⟨⟨q1, q2, q3, q4, q5, q6, d11⟩, _, _⟩ := h.2.2.2.2.2.2.2.2.2.1
  obtain ⟨w', N', z1, z2, z3, z4, X88⟩ := m88 (a := if rule = 4 then 7 else 12) (d + 5) h h30 hL (by split <;> omega) (by split <;> omega) hg h9 ok false (dpS Ds rule i j + 1) (ndS Ds rule i j)
  refine ⟨w', N', z1, z2, z3, fun j j0 j1 => z4 j (by omega) j1, ?_⟩
  obtain ⟨t, S, E, B, y1, y2, y3, y4, _⟩ := hn
  have ri := hR i.toNat (by omega)
  obtain ⟨x1, hx1⟩ : ∃ x1, x1 = (cl Ds i.toNat).2.2.1 := ⟨_, rfl⟩
  obtain ⟨s1, hs1⟩ : ∃ s1, s1 = (cl Ds i.toNat).2.2.2 := ⟨_, rfl⟩
  rw [← hx1, ← hs1] at y3 ri
  -- the second record
  have sec : ∃ (x2 s2 : Int) (f2 t2 : Nat), w n2 = .inr (1, [.ref f2, .int (iZ x2), .int (iZ s2), .ref t2]) ∧ n2 < N ∧ 0 ≤ x2 ∧ x2 ≤ 30 ∧ (if x1 < x2 then x2 else x1) = dpS Ds rule i j ∧ iZ s1 ||| iZ s2 = iZ (ndS Ds rule i j) := by
    cases h2 : two_ rule with
    | false =>
      have hr : ¬ (rule = 0 ∨ rule = 3) := by unfold two_ at h2; simpa using h2
      have e := hnn h2
      subst e
      refine ⟨x1, s1, _, _, y3, by omega, ri.1, ri.2.1, ?_, ?_⟩
      · have e1 : (if x1 < x1 then x1 else x1) = x1 := by split <;> rfl
        rw [e1]
        unfold dpS
        rw [if_neg (fun z => hr z.1), hx1]
      · unfold ndS
        rw [if_neg hr, ← hs1]
        exact Int32.or_self
    | true =>
      have hr : rule = 0 ∨ rule = 3 := by unfold two_ at h2; simpa using h2
      obtain ⟨t2, S2, E2, B2, u1, u2, u3, u4, _⟩ := hn2 h2
      have rj := hR j.toNat (by have := hj hr; omega)
      refine ⟨_, _, _, _, u3, by omega, rj.1, rj.2.1, ?_, ?_⟩
      · unfold dpS
        rw [← hx1]
        by_cases hc : x1 < (cl Ds j.toNat).2.2.1
        · rw [if_pos hc, if_pos ⟨hr, hc⟩]
        · rw [if_neg hc, if_neg (fun z => hc z.2)]
      · unfold ndS
        rw [if_pos hr, ← hs1]
        exact or_Z ri.2.2.1 ri.2.2.2 rj.2.2.1 rj.2.2.2
  obtain ⟨x2, s2, f2, t2, v1, v2, v3, v4, v5, v6⟩ := sec
  obtain ⟨dp, hdp⟩ : ∃ dp, dp = dpS Ds rule i j := ⟨_, rfl⟩
  obtain ⟨nd, hnd⟩ : ∃ nd, nd = ndS Ds rule i j := ⟨_, rfl⟩
  rw [← hdp] at v5
  rw [← hnd] at v6
  rw [← hdp, ← hnd] at X88
  rw [Int.add_comm dp 1] at X88
  have mx : (if x1 < x2 then iZ x2 else iZ x1) = iZ dp := by
    rw [← v5]
    split <;> rfl
  have x19 := ri.2.1
  have x10 := ri.1
  obtain ⟨hc, l0, l1, l2, l3, l4, l5, l6⟩ := hl
  obtain ⟨cnt, hcnt⟩ : ∃ cnt : Int, cnt = (Ds.length : Int) := ⟨_, rfl⟩
  rw [← hcnt] at c0
  refine Gx.fin 60 X88 (fun X mm => ?_)
  by_cases hr4 : rule = 4
  · rw [if_pos hr4] at mm
    subst hr4
    simp (disch := first | (refine c1_id ?_; assumption) | (refine c1_st rfl ?_; repeat (first | assumption | refine c1_st rfl ?_)) | omega) [nx_l, nx_r, nx_n, x_st, x_push, x_bin, x_div, x_un, x_dup, x_pop, x_dup2, x_goto, x_ifeq, x_ifne, x_iflt, x_ifge, x_ifgt, x_ifle, x_iceq, x_icne, x_iclt, x_icge, x_icgt, x_icle, x_ifnull, x_ifnonnull, x_ldi, x_lda, x_sti, x_sta, x_iinc, x_gf, x_pf, x_ald, x_ast, x_aln, x_len, x_cl_, x_cv, x_cs, x_rc, x_r0, x_isT, x_oi, x_rv, x_ri, x_ra, Value.category, t83_0, t83_1, t83_4, t83_6, t83_9, t83_11, t83_12, t83_13, t83_14, t83_17, t83_19, t83_20, t83_23, t83_26, t83_27, t83_29, t83_32, t83_35, t83_37, t83_39, t83_41, t83_44, t83_46, t83_49, t83_50, t83_51, t83_53, t83_56, t83_57, t83_59, t83_62, t83_64, t83_66, t83_69, t83_72, t83_74, t83_75, t83_76, t83_79, t83_82, t83_83, t83_86, t83_89, t83_90, t83_93, t83_94, t83_95, t83_96, t83_99, t83_100, t83_103, t83_104, t83_107, t83_108, t83_110, t83_113, t83_114, t83_116, t83_119, t83_121, t83_123, t83_126, t83_128, t83_130, t83_133, t83_135, t83_136, t83_137, t83_140, t83_143, t83_144, t83_145, t83_147, t83_150, t83_153, t83_156, t83_158, t83_159, t83_160, t83_161, t83_164, t83_165, t83_168, t83_171, t83_172, t83_175, t83_178, t83_180, t83_181, t83_183, t83_184, t83_186, t83_189, t83_191, t83_194, t83_197, t83_198, t83_200, t83_203, t83_205, t83_208, t83_209, t83_212, t83_213, lk_s, hp_get, hp_set, uH_at, uH_ne, uH_upd, uH_swap, iZ_add, iZ_sub, iZ_mul, iZ_neg, iZ_lt, iZ_le, iZ_eq, iZ_div, iZ_of, ix_Z, gZ_map, gZ_mapI, gZ_map', le_0, le_s, sZ_map, sZ_len, bZ_0, bZ_inj, bZ_t, bZ_f, nr_i, nr_0, nr_1, nr_b, ft_i, ft_b, ft_0, ft_1, zl_0, zl_1, zl_3, zl_4, zl_8, zl_30, l0, l1, l7, l8, c0, y3, v1, mx, v6, mm, dk, x_mm, -List.filter_filter, -List.getElem?_map, -List.getD_eq_getElem?_getD]
  · rw [if_neg hr4] at mm
    have b1 : ¬ rule = 4 := hr4
    have b2 : 0 ≤ rule := r0
    have b3 : rule < 10 := by omega
    simp (disch := first | (refine c1_id ?_; assumption) | (refine c1_st rfl ?_; repeat (first | assumption | refine c1_st rfl ?_)) | omega) [nx_l, nx_r, nx_n, x_st, x_push, x_bin, x_div, x_un, x_dup, x_pop, x_dup2, x_goto, x_ifeq, x_ifne, x_iflt, x_ifge, x_ifgt, x_ifle, x_iceq, x_icne, x_iclt, x_icge, x_icgt, x_icle, x_ifnull, x_ifnonnull, x_ldi, x_lda, x_sti, x_sta, x_iinc, x_gf, x_pf, x_ald, x_ast, x_aln, x_len, x_cl_, x_cv, x_cs, x_rc, x_r0, x_isT, x_oi, x_rv, x_ri, x_ra, Value.category, t83_0, t83_1, t83_4, t83_6, t83_9, t83_11, t83_12, t83_13, t83_14, t83_17, t83_19, t83_20, t83_23, t83_26, t83_27, t83_29, t83_32, t83_35, t83_37, t83_39, t83_41, t83_44, t83_46, t83_49, t83_50, t83_51, t83_53, t83_56, t83_57, t83_59, t83_62, t83_64, t83_66, t83_69, t83_72, t83_74, t83_75, t83_76, t83_79, t83_82, t83_83, t83_86, t83_89, t83_90, t83_93, t83_94, t83_95, t83_96, t83_99, t83_100, t83_103, t83_104, t83_107, t83_108, t83_110, t83_113, t83_114, t83_116, t83_119, t83_121, t83_123, t83_126, t83_128, t83_130, t83_133, t83_135, t83_136, t83_137, t83_140, t83_143, t83_144, t83_145, t83_147, t83_150, t83_153, t83_156, t83_158, t83_159, t83_160, t83_161, t83_164, t83_165, t83_168, t83_171, t83_172, t83_175, t83_178, t83_180, t83_181, t83_183, t83_184, t83_186, t83_189, t83_191, t83_194, t83_197, t83_198, t83_200, t83_203, t83_205, t83_208, t83_209, t83_212, t83_213, lk_s, hp_get, hp_set, uH_at, uH_ne, uH_upd, uH_swap, iZ_add, iZ_sub, iZ_mul, iZ_neg, iZ_lt, iZ_le, iZ_eq, iZ_div, iZ_of, ix_Z, gZ_map, gZ_mapI, gZ_map', le_0, le_s, sZ_map, sZ_len, bZ_0, bZ_inj, bZ_t, bZ_f, nr_i, nr_0, nr_1, nr_b, ft_i, ft_b, ft_0, ft_1, zl_0, zl_1, zl_3, zl_4, zl_8, zl_30, l0, l1, l7, l8, c0, d11, y3, v1, b1, mx, v6, mm, dk, dO, x_mm, -List.filter_filter, -List.getElem?_map, -List.getD_eq_getElem?_getD]
set_option maxHeartbeats 1000000 in
/-- what apply gives, for any rule -/
theorem C59 (d : Nat) (h : CS w N Ds [] U clm cf lf) {T0 : List Int} (rule i k j l p : Int) (lr : -2147483648 ≤ l ∧ l < 2147483648) (pr : -2147483648 ≤ p ∧ p < 2147483648) (ht : thB Ds T0 rule i k j l p = true) (h4 : rule ≠ 4) (n n2 : Nat) (hn : CLa w N n (cl Ds i.toNat)) (hn2 : two_ rule = true → CLa w N n2 (cl Ds j.toNat)) (hnn : two_ rule = false → n2 = n) :
    ∃ (r : Int) (w' : Nat → xC) (C' : List (Int × List Int)), Fr ksX w w' ∧ DI w' ∧ rzR Ds rule i k j l p r C' ∧ (r = 0 → LB w' C') ∧ Xc (d + 6) 59 [.ref 14, .int (iZ rule), .ref (n + 1 + 3), .int (iZ k), .ref (n2 + 1 + 3), .int (iZ l), .int (iZ p)] (hp w N) (some (.int (iZ r)), hp w' N) := by
  have hN := h.2.2.2.2.2.2.2.2.2.2.2.1
  have hD := h.2.2.2.2.2.2.2.2.2.1
  obtain ⟨r0, r1, i0, i1, _, hk, hl1, hj, hp3⟩ := thB_ok ht
  obtain ⟨k0, k1⟩ := litB_ok (hk h4)
  obtain ⟨t, S, E, B, y1, y2, y3, y4, _⟩ := hn
  have ek : ((k.toNat : Nat) : Int) = k := by omega
  have cases4 : rule = 0 ∨ rule = 1 ∨ rule = 2 ∨ rule = 3 := by omega
  have k1' : k.toNat < (cl Ds i.toNat).1.length := k1
  rcases cases4 with rfl | rfl | rfl | rfl
  · obtain ⟨j0, j1, hl⟩ := hj (Or.inl rfl)
    obtain ⟨l0, l1⟩ := litB_ok hl
    have el : ((l.toNat : Nat) : Int) = l := by omega
    have l1' : l.toNat < (cl Ds j.toNat).1.length := l1
    obtain ⟨t2, S2, E2, B2, u1, u2, u3, u4, _⟩ := hn2 rfl
    obtain ⟨r, w', C', a1, a2, a3, a4, a5⟩ := m59_0 (N := N) d hN (by omega) (by omega) y4 u4 hD k.toNat l.toNat k1' l1' p
    rw [ek, el] at a5
    refine ⟨r, w', C', a1, a2, ?_, a4, a5⟩
    unfold rzR
    rw [if_pos rfl]
    exact a3
  · obtain ⟨l0, l1⟩ := litB_ok (hl1 rfl)
    have el : ((l.toNat : Nat) : Int) = l := by omega
    have l1' : l.toNat < (cl Ds i.toNat).1.length := l1
    have e := hnn rfl
    subst e
    obtain ⟨r, w', C', a1, a2, a3, a4, a5⟩ := m59_1 (N := N) (b := n2 + 1) d hN (by omega) (by omega) y4 hD k.toNat l.toNat k1' l1' p
    rw [ek, el] at a5
    refine ⟨r, w', C', a1, a2, ?_, a4, a5⟩
    unfold rzR
    rw [if_neg (by decide), if_pos rfl]
    exact a3
  · have e := hnn rfl
    subst e
    obtain ⟨r, w', C', a1, a2, a3, a4, a5⟩ := m59_2 (N := N) (b := n2 + 1) d hN (by omega) (by omega) y4 hD k.toNat k1' l p
    rw [ek] at a5
    refine ⟨r, w', C', a1, a2, ?_, a4, a5⟩
    unfold rzR
    rw [if_neg (by decide), if_neg (by decide), if_pos rfl]
    exact a3
  · obtain ⟨j0, j1, hl⟩ := hj (Or.inr rfl)
    obtain ⟨l0, l1⟩ := litB_ok hl
    have el : ((l.toNat : Nat) : Int) = l := by omega
    have l1' : l.toNat < (cl Ds j.toNat).1.length := l1
    obtain ⟨t2, S2, E2, B2, u1, u2, u3, u4, _⟩ := hn2 rfl
    have hpl := hp3 rfl
    unfold plB at hpl
    have hpl' : 0 ≤ p ∧ 1 + plQ p < (lC (cl1 Ds j) l.toNat).2.length ∧ 99 ≤ (lC (cl1 Ds j) l.toNat).2.getD (1 + plQ p).toNat 0 := by simpa using hpl
    have q0 : 0 ≤ plQ p := by
      unfold plQ
      split <;> omega
    have hq1 : 1 + (plQ p).toNat < (lC (cl Ds j.toNat).1 l.toNat).2.length := by
      have : 1 + plQ p < ((lC (cl Ds j.toNat).1 l.toNat).2.length : Int) := hpl'.2.1
      omega
    obtain ⟨r, w', C', a1, a2, a3, a4, a5⟩ := m59_3 (N := N) d hN (by omega) (by omega) y4 u4 hD k.toNat l.toNat k1' l1' p hpl'.1 pr.2 (plQ p).toNat (by omega) hq1
    rw [ek, el] at a5
    refine ⟨r, w', C', a1, a2, ?_, a4, a5⟩
    unfold rzR
    rw [if_neg (by decide), if_neg (by decide), if_neg (by decide)]
    exact a3
set_option maxHeartbeats 1000000 in
theorem Q83 (d : Nat) (h : CS w N Ds [] U clm cf lf) (hT : TD T U clm cf w) (hK : KI Ds U) (hR : HR Ds) (h30 : Ds.length < 30) (rule i k j l p : Int) (lr : -2147483648 ≤ l ∧ l < 2147483648) (pr : -2147483648 ≤ p ∧ p < 2147483648) (ht : thB Ds T rule i k j l p = true) (n n2 : Nat) (hn : CLa w N n (cl Ds i.toNat)) (hn2 : two_ rule = true → CLa w N n2 (cl Ds j.toNat)) (hnn : two_ rule = false → n2 = n) (lv : xL) (hl : lv83 lv rule i k j l p) (l7 : x_lk lv 7 = some (.ref (n + 3))) (l8 : x_lk lv 8 = some (.ref (n2 + 3))) :
    ∃ (w' : Nat → xC) (N' : Nat) (why : Int) (Ds' : List (List (Int × List Int) × Bool × Int × Int)) (U' : List Int), N ≤ N' ∧ N' ≤ N + (if Ds' = Ds then 0 else 206) ∧ CS w' N' Ds' [] U' clm cf lf ∧ (∀ j, 27 ≤ j → j < N → w' j = w j) ∧ AVs Ds T U rule i k j l p why Ds' U' ∧ Gx q_k83 (d + 54) 75 (lv, [], hp w N) (some (.int (iZ why)), hp w' N') := by
  have c0 := h.1
  have hN := h.2.2.2.2.2.2.2.2.2.2.2.1
  have hMI := h.2.2.2.2.2.2.2.2.2.2.1
  have hDI := h.2.2.2.2.2.2.2.2.2.1
  have uk := h.2.2.2.2.2.2.1
  have hn' := hn
  obtain ⟨t, S, E, B, y1, y2, y3, y4, _⟩ := hn'
  obtain ⟨r0, r1, i0, i1, hT4, hk, hl1, hjj, hp3⟩ := thB_ok ht
  have hl' := hl
  obtain ⟨hc, l0, l1, l2, l3, l4, l5, l6⟩ := hl'
  have tne : ¬ thB Ds T rule i k j l p = false := by rw [ht]; decide
  have n30 : ¬ Ds.length = 30 := by omega
  have hG : ∀ i : Nat, i < Ds.length → gC (cl Ds i).1 := fun i hi => by
    obtain ⟨Rf, _, _, r3⟩ := h.2.2.2.1
    obtain ⟨n, _, t, S, E, B, _, _, _, F, _⟩ := r3 i hi
    exact F.2.2.2.1
  have dsne : ∀ q : List (Int × List Int) × Bool × Int × Int, ¬ Ds ++ [q] = Ds := fun q z => by
    have := congrArg List.length z
    simp at this
  obtain ⟨hcm, hcf⟩ := hT
  obtain ⟨cnt, hcnt⟩ : ∃ cnt : Int, cnt = (Ds.length : Int) := ⟨_, rfl⟩
  rw [← hcnt] at c0
  -- what is the claim, if its reading is right
  have same : ∀ {why : Int}, AVs Ds T U rule i k j l p why Ds U → Gx q_k83 (d + 54) 75 (lv, [], hp w N) (some (.int (iZ why)), hp w N) → ∃ (w' : Nat → xC) (N' : Nat) (why : Int) (Ds' : List (List (Int × List Int) × Bool × Int × Int)) (U' : List Int), N ≤ N' ∧ N' ≤ N + (if Ds' = Ds then 0 else 206) ∧ CS w' N' Ds' [] U' clm cf lf ∧ (∀ j, 27 ≤ j → j < N → w' j = w j) ∧ AVs Ds T U rule i k j l p why Ds' U' ∧ Gx q_k83 (d + 54) 75 (lv, [], hp w N) (some (.int (iZ why)), hp w' N') := fun hA hX => ⟨w, N, _, Ds, U, Nat.le_refl _, by omega, h, fun _ _ _ => rfl, hA, hX⟩
  -- the rules 0 to 3, claim or none, from 94
  have rules : rule ≠ 4 → (∀ Cl : Option (List (Int × List Int)), (Cl = none → clm = 0) → (∀ C, Cl = some C → clm = 1 ∧ LA w 7 C) → ∃ (w' : Nat → xC) (N' : Nat) (why : Int) (Ds' : List (List (Int × List Int) × Bool × Int × Int)) (U' : List Int), N ≤ N' ∧ N' ≤ N + (if Ds' = Ds then 0 else 206) ∧ CS w' N' Ds' [] U' clm cf lf ∧ (∀ j, 27 ≤ j → j < N → w' j = w j) ∧ (∃ rr C', rzR Ds rule i k j l p rr C' ∧ if rr = 0 then (if Cl = none ∨ Cl = some C' then why = 0 ∧ Ds' = Ds ++ [(C', false, dpS Ds rule i j + 1, ndS Ds rule i j)] ∧ U' = U else why = -8 ∧ Ds' = Ds ∧ U' = U) else why = rr ∧ Ds' = Ds ∧ U' = U) ∧ Gx q_k83 (d + 54) 94 (lv, [], hp w N) (some (.int (iZ why)), hp w' N')) := fun h4 Cl hn0 hn1 => by
    obtain ⟨rr, w1, C', a1, a2, a3, a4, a5⟩ := C59 (d + 48) h rule i k j l p lr pr ht h4 n n2 hn hn2 hnn
    have fX : ∀ j, j ≤ 10 ∨ 24 ≤ j → w1 j = w j := fun j hj => a1 j (fun z => by
      unfold ksX at z
      simp only [List.mem_cons, List.not_mem_nil, or_false] at z
      omega)
    have CS1 : CS w1 N Ds [] U clm cf lf := h.fr (fun j hj => fX j (by omega)) a2 (hMI.mv (fun j j0 _ => fX j (by omega)))
    have n2w : ∃ F2 : List Value, w n2 = .inr (1, .ref (n2 + 1 + 3) :: F2) ∧ n2 < N := by
      cases h2 : two_ rule with
      | false =>
        rw [hnn h2]
        exact ⟨_, y3, by omega⟩
      | true =>
        obtain ⟨t2, S2, E2, B2, u1, u2, u3, u4, _⟩ := hn2 h2
        exact ⟨_, u3, by omega⟩
    obtain ⟨F2, n2w, n2N⟩ := n2w
    obtain ⟨⟨q1, q2, q3, q4, q5, q6, d11⟩, _, _⟩ := hDI
    have C9 := c1_st (i := 9) (v := .int (iZ rr)) rfl hc
    have L9 := hl.st (q := 9) (v := .int (iZ rr)) (by omega) rfl
    have m7' : x_lk ((9, .int (iZ rr)) :: lv.filter (x_keep 9)) 7 = some (.ref (n + 3)) := by rw [lk_s hc]; exact l7
    have m8' : x_lk ((9, .int (iZ rr)) :: lv.filter (x_keep 9)) 8 = some (.ref (n2 + 3)) := by rw [lk_s hc]; exact l8
    have m9' : x_lk ((9, .int (iZ rr)) :: lv.filter (x_keep 9)) 9 = some (.int (iZ rr)) := by rw [lk_s hc]; rfl
    have b4 : ¬ rule = 4 := h4
    have b5 : rule < 10 := by omega
    have g128 : ∀ res, Gx q_k83 (d + 54) 128 ((9, .int (iZ rr)) :: lv.filter (x_keep 9), [], hp w1 N) res → Gx q_k83 (d + 54) 94 (lv, [], hp w N) res := fun res hres => by
      refine Gx.run 60 a5 (fun X mm => ?_) hres
      simp (disch := first | (refine c1_id ?_; assumption) | (refine c1_st rfl ?_; repeat (first | assumption | refine c1_st rfl ?_)) | omega) [nx_l, nx_r, nx_n, x_st, x_push, x_bin, x_div, x_un, x_dup, x_pop, x_dup2, x_goto, x_ifeq, x_ifne, x_iflt, x_ifge, x_ifgt, x_ifle, x_iceq, x_icne, x_iclt, x_icge, x_icgt, x_icle, x_ifnull, x_ifnonnull, x_ldi, x_lda, x_sti, x_sta, x_iinc, x_gf, x_pf, x_ald, x_ast, x_aln, x_len, x_cl_, x_cv, x_cs, x_rc, x_r0, x_isT, x_oi, x_rv, x_ri, x_ra, Value.category, t83_0, t83_1, t83_4, t83_6, t83_9, t83_11, t83_12, t83_13, t83_14, t83_17, t83_19, t83_20, t83_23, t83_26, t83_27, t83_29, t83_32, t83_35, t83_37, t83_39, t83_41, t83_44, t83_46, t83_49, t83_50, t83_51, t83_53, t83_56, t83_57, t83_59, t83_62, t83_64, t83_66, t83_69, t83_72, t83_74, t83_75, t83_76, t83_79, t83_82, t83_83, t83_86, t83_89, t83_90, t83_93, t83_94, t83_95, t83_96, t83_99, t83_100, t83_103, t83_104, t83_107, t83_108, t83_110, t83_113, t83_114, t83_116, t83_119, t83_121, t83_123, t83_126, t83_128, t83_130, t83_133, t83_135, t83_136, t83_137, t83_140, t83_143, t83_144, t83_145, t83_147, t83_150, t83_153, t83_156, t83_158, t83_159, t83_160, t83_161, t83_164, t83_165, t83_168, t83_171, t83_172, t83_175, t83_178, t83_180, t83_181, t83_183, t83_184, t83_186, t83_189, t83_191, t83_194, t83_197, t83_198, t83_200, t83_203, t83_205, t83_208, t83_209, t83_212, t83_213, lk_s, hp_get, hp_set, uH_at, uH_ne, uH_upd, uH_swap, iZ_add, iZ_sub, iZ_mul, iZ_neg, iZ_lt, iZ_le, iZ_eq, iZ_div, iZ_of, ix_Z, gZ_map, gZ_mapI, gZ_map', le_0, le_s, sZ_map, sZ_len, bZ_0, bZ_inj, bZ_t, bZ_f, nr_i, nr_0, nr_1, nr_b, ft_i, ft_b, ft_0, ft_1, zl_0, zl_1, zl_3, zl_4, zl_8, zl_30, l0, l1, l3, l5, l6, l7, l8, c0, d11, y3, n2w, b4, mm, dk, dO, -List.filter_filter, -List.getElem?_map, -List.getD_eq_getElem?_getD]
    generalize ((9, .int (iZ rr)) :: lv.filter (x_keep 9) : xL) = lv9 at C9 L9 m7' m8' m9' g128
    have c01 : w1 0 = dk cnt clm cf lf := (fX 0 (by omega)).trans c0
    have rrng : rr = 0 ∨ (-7 ≤ rr ∧ rr ≤ -5) := by
      unfold rzR at a3
      split at a3
      · exact RZ_rng a3
      · split at a3
        · exact RZ_rng a3
        · split at a3
          · exact RZ_rng a3
          · exact RZ_rng a3
    by_cases hr0 : rr = 0
    · have hLB := a4 hr0
      rw [hr0] at a3 m9'
      have gC' := rzR_gC hG ht h4 a3
      have lw := rzR_LW hK hG ht h4 a3
      have kn : ntC C' (U, false) = (U, false) := ntC_kn uk.1 (fun y hy s hs => ((gC'.2.2 y hy).2.2 s hs).2.1) (fun y hy => (lw y hy).kn)
      have n9 : no9 C' := fun y hy => (lw y hy).n9
      have hL12 : LA w1 (if rule = 4 then 7 else 12) C' := by
        rw [if_neg h4]
        exact hLB
      obtain ⟨w2, N2, z1, z2, z3, z4, z5⟩ := E83 d CS1 h30 hR rule i k j l p i0 i1 (fun z => by obtain ⟨j0, j1, _⟩ := hjj z; exact ⟨j0, j1⟩) r0 r1 n n2 (hn.mv (Nat.le_refl _) (fun j j0 _ => fX j (by omega))) (fun z => (hn2 z).mv (Nat.le_refl _) (fun j j0 _ => fX j (by omega))) hnn lv9 L9 m7' m8' hL12 gC' n9 (by rw [kn])
      rw [kn] at z3
      have L9' := L9
      obtain ⟨_, k0, k1, k2, k3, k4, k5, k6⟩ := L9'
      have y31 : w1 n = .inr (1, [.ref (n + 1 + 3), .int (iZ (cl Ds i.toNat).2.2.1), .int (iZ (cl Ds i.toNat).2.2.2), .ref t]) := (fX n (by omega)).trans y3
      cases hCl : Cl with
      | none =>
        have cm0 := hn0 hCl
        refine ⟨w2, N2, 0, _, U, z1, by rw [if_neg (dsne _)]; exact z2, z3, fun j j0 j1 => (z4 j j0 j1).trans (fX j (by omega)), ⟨0, C', a3, by rw [if_pos rfl, if_pos (Or.inl rfl)]; exact ⟨rfl, rfl, rfl⟩⟩, g128 _ (Gx.run 20 Cs.tt (fun X _ => ?_) z5)⟩
        rw [cm0] at c01
        simp (disch := first | (refine c1_id ?_; assumption) | (refine c1_st rfl ?_; repeat (first | assumption | refine c1_st rfl ?_)) | omega) [nx_l, nx_r, nx_n, x_st, x_push, x_bin, x_div, x_un, x_dup, x_pop, x_dup2, x_goto, x_ifeq, x_ifne, x_iflt, x_ifge, x_ifgt, x_ifle, x_iceq, x_icne, x_iclt, x_icge, x_icgt, x_icle, x_ifnull, x_ifnonnull, x_ldi, x_lda, x_sti, x_sta, x_iinc, x_gf, x_pf, x_ald, x_ast, x_aln, x_len, x_cl_, x_cv, x_cs, x_rc, x_r0, x_isT, x_oi, x_rv, x_ri, x_ra, Value.category, t83_0, t83_1, t83_4, t83_6, t83_9, t83_11, t83_12, t83_13, t83_14, t83_17, t83_19, t83_20, t83_23, t83_26, t83_27, t83_29, t83_32, t83_35, t83_37, t83_39, t83_41, t83_44, t83_46, t83_49, t83_50, t83_51, t83_53, t83_56, t83_57, t83_59, t83_62, t83_64, t83_66, t83_69, t83_72, t83_74, t83_75, t83_76, t83_79, t83_82, t83_83, t83_86, t83_89, t83_90, t83_93, t83_94, t83_95, t83_96, t83_99, t83_100, t83_103, t83_104, t83_107, t83_108, t83_110, t83_113, t83_114, t83_116, t83_119, t83_121, t83_123, t83_126, t83_128, t83_130, t83_133, t83_135, t83_136, t83_137, t83_140, t83_143, t83_144, t83_145, t83_147, t83_150, t83_153, t83_156, t83_158, t83_159, t83_160, t83_161, t83_164, t83_165, t83_168, t83_171, t83_172, t83_175, t83_178, t83_180, t83_181, t83_183, t83_184, t83_186, t83_189, t83_191, t83_194, t83_197, t83_198, t83_200, t83_203, t83_205, t83_208, t83_209, t83_212, t83_213, lk_s, hp_get, hp_set, uH_at, uH_ne, uH_upd, uH_swap, iZ_add, iZ_sub, iZ_mul, iZ_neg, iZ_lt, iZ_le, iZ_eq, iZ_div, iZ_of, ix_Z, gZ_map, gZ_mapI, gZ_map', le_0, le_s, sZ_map, sZ_len, bZ_0, bZ_inj, bZ_t, bZ_f, nr_i, nr_0, nr_1, nr_b, ft_i, ft_b, ft_0, ft_1, zl_0, zl_1, zl_3, zl_4, zl_8, zl_30, k0, m9', c01, dk, -List.filter_filter, -List.getElem?_map, -List.getD_eq_getElem?_getD]
      | some C =>
        obtain ⟨cm1, hLC⟩ := hn1 C hCl
        have hLC1 : LA w1 7 C := hLC.mv (fun j j0 j1 => fX j (by omega))
        obtain ⟨⟨p1, p2, p3, p4, p5, p6, d111⟩, _, _⟩ := a2
        have X84 := m84_n (a := n + 1) (N := N) (d + 52) hN c01 d111 hLC1 hLB rule r0 (by omega)
        rw [cm1] at c01
        by_cases hCC : C' = C
        · rw [decide_eq_true hCC, bZ_t] at X84
          refine ⟨w2, N2, 0, _, U, z1, by rw [if_neg (dsne _)]; exact z2, z3, fun j j0 j1 => (z4 j j0 j1).trans (fX j (by omega)), ⟨0, C', a3, by rw [if_pos rfl, if_pos (Or.inr (by rw [hCC]))]; exact ⟨rfl, rfl, rfl⟩⟩, g128 _ (Gx.run 40 X84 (fun X mm => ?_) z5)⟩
          simp (disch := first | (refine c1_id ?_; assumption) | (refine c1_st rfl ?_; repeat (first | assumption | refine c1_st rfl ?_)) | omega) [nx_l, nx_r, nx_n, x_st, x_push, x_bin, x_div, x_un, x_dup, x_pop, x_dup2, x_goto, x_ifeq, x_ifne, x_iflt, x_ifge, x_ifgt, x_ifle, x_iceq, x_icne, x_iclt, x_icge, x_icgt, x_icle, x_ifnull, x_ifnonnull, x_ldi, x_lda, x_sti, x_sta, x_iinc, x_gf, x_pf, x_ald, x_ast, x_aln, x_len, x_cl_, x_cv, x_cs, x_rc, x_r0, x_isT, x_oi, x_rv, x_ri, x_ra, Value.category, t83_0, t83_1, t83_4, t83_6, t83_9, t83_11, t83_12, t83_13, t83_14, t83_17, t83_19, t83_20, t83_23, t83_26, t83_27, t83_29, t83_32, t83_35, t83_37, t83_39, t83_41, t83_44, t83_46, t83_49, t83_50, t83_51, t83_53, t83_56, t83_57, t83_59, t83_62, t83_64, t83_66, t83_69, t83_72, t83_74, t83_75, t83_76, t83_79, t83_82, t83_83, t83_86, t83_89, t83_90, t83_93, t83_94, t83_95, t83_96, t83_99, t83_100, t83_103, t83_104, t83_107, t83_108, t83_110, t83_113, t83_114, t83_116, t83_119, t83_121, t83_123, t83_126, t83_128, t83_130, t83_133, t83_135, t83_136, t83_137, t83_140, t83_143, t83_144, t83_145, t83_147, t83_150, t83_153, t83_156, t83_158, t83_159, t83_160, t83_161, t83_164, t83_165, t83_168, t83_171, t83_172, t83_175, t83_178, t83_180, t83_181, t83_183, t83_184, t83_186, t83_189, t83_191, t83_194, t83_197, t83_198, t83_200, t83_203, t83_205, t83_208, t83_209, t83_212, t83_213, lk_s, hp_get, hp_set, uH_at, uH_ne, uH_upd, uH_swap, iZ_add, iZ_sub, iZ_mul, iZ_neg, iZ_lt, iZ_le, iZ_eq, iZ_div, iZ_of, ix_Z, gZ_map, gZ_mapI, gZ_map', le_0, le_s, sZ_map, sZ_len, bZ_0, bZ_inj, bZ_t, bZ_f, nr_i, nr_0, nr_1, nr_b, ft_i, ft_b, ft_0, ft_1, zl_0, zl_1, zl_3, zl_4, zl_8, zl_30, k0, k1, m7', m9', c01, y31, mm, dk, -List.filter_filter, -List.getElem?_map, -List.getD_eq_getElem?_getD]
        · rw [decide_eq_false hCC, bZ_f] at X84
          have hne : ¬ ((some C : Option (List (Int × List Int))) = none ∨ some C = some C') := fun z => by
            rcases z with z | z
            · cases z
            · injection z with z
              exact hCC z.symm
          refine ⟨w1, N, -8, Ds, U, Nat.le_refl _, by omega, CS1, fun j j0 j1 => fX j (by omega), ⟨0, C', a3, by rw [if_pos rfl, if_neg hne]; exact ⟨rfl, rfl, rfl⟩⟩, g128 _ (Gx.fin 40 X84 (fun X mm => ?_))⟩
          simp (disch := first | (refine c1_id ?_; assumption) | (refine c1_st rfl ?_; repeat (first | assumption | refine c1_st rfl ?_)) | omega) [nx_l, nx_r, nx_n, x_st, x_push, x_bin, x_div, x_un, x_dup, x_pop, x_dup2, x_goto, x_ifeq, x_ifne, x_iflt, x_ifge, x_ifgt, x_ifle, x_iceq, x_icne, x_iclt, x_icge, x_icgt, x_icle, x_ifnull, x_ifnonnull, x_ldi, x_lda, x_sti, x_sta, x_iinc, x_gf, x_pf, x_ald, x_ast, x_aln, x_len, x_cl_, x_cv, x_cs, x_rc, x_r0, x_isT, x_oi, x_rv, x_ri, x_ra, Value.category, t83_0, t83_1, t83_4, t83_6, t83_9, t83_11, t83_12, t83_13, t83_14, t83_17, t83_19, t83_20, t83_23, t83_26, t83_27, t83_29, t83_32, t83_35, t83_37, t83_39, t83_41, t83_44, t83_46, t83_49, t83_50, t83_51, t83_53, t83_56, t83_57, t83_59, t83_62, t83_64, t83_66, t83_69, t83_72, t83_74, t83_75, t83_76, t83_79, t83_82, t83_83, t83_86, t83_89, t83_90, t83_93, t83_94, t83_95, t83_96, t83_99, t83_100, t83_103, t83_104, t83_107, t83_108, t83_110, t83_113, t83_114, t83_116, t83_119, t83_121, t83_123, t83_126, t83_128, t83_130, t83_133, t83_135, t83_136, t83_137, t83_140, t83_143, t83_144, t83_145, t83_147, t83_150, t83_153, t83_156, t83_158, t83_159, t83_160, t83_161, t83_164, t83_165, t83_168, t83_171, t83_172, t83_175, t83_178, t83_180, t83_181, t83_183, t83_184, t83_186, t83_189, t83_191, t83_194, t83_197, t83_198, t83_200, t83_203, t83_205, t83_208, t83_209, t83_212, t83_213, lk_s, hp_get, hp_set, uH_at, uH_ne, uH_upd, uH_swap, iZ_add, iZ_sub, iZ_mul, iZ_neg, iZ_lt, iZ_le, iZ_eq, iZ_div, iZ_of, ix_Z, gZ_map, gZ_mapI, gZ_map', le_0, le_s, sZ_map, sZ_len, bZ_0, bZ_inj, bZ_t, bZ_f, nr_i, nr_0, nr_1, nr_b, ft_i, ft_b, ft_0, ft_1, zl_0, zl_1, zl_3, zl_4, zl_8, zl_30, k0, k1, m7', m9', c01, y31, mm, dk, -List.filter_filter, -List.getElem?_map, -List.getD_eq_getElem?_getD]
    · refine ⟨w1, N, rr, Ds, U, Nat.le_refl _, by omega, CS1, fun j j0 j1 => fX j (by omega), ⟨rr, C', a3, by rw [if_neg hr0]; exact ⟨rfl, rfl, rfl⟩⟩, g128 _ (Gx.fin 20 Cs.tt (fun X _ => ?_))⟩
      have b6 : -10 < rr := by omega
      have b7 : rr < 10 := by omega
      simp (disch := first | (refine c1_id ?_; assumption) | (refine c1_st rfl ?_; repeat (first | assumption | refine c1_st rfl ?_)) | omega) [nx_l, nx_r, nx_n, x_st, x_push, x_bin, x_div, x_un, x_dup, x_pop, x_dup2, x_goto, x_ifeq, x_ifne, x_iflt, x_ifge, x_ifgt, x_ifle, x_iceq, x_icne, x_iclt, x_icge, x_icgt, x_icle, x_ifnull, x_ifnonnull, x_ldi, x_lda, x_sti, x_sta, x_iinc, x_gf, x_pf, x_ald, x_ast, x_aln, x_len, x_cl_, x_cv, x_cs, x_rc, x_r0, x_isT, x_oi, x_rv, x_ri, x_ra, Value.category, t83_0, t83_1, t83_4, t83_6, t83_9, t83_11, t83_12, t83_13, t83_14, t83_17, t83_19, t83_20, t83_23, t83_26, t83_27, t83_29, t83_32, t83_35, t83_37, t83_39, t83_41, t83_44, t83_46, t83_49, t83_50, t83_51, t83_53, t83_56, t83_57, t83_59, t83_62, t83_64, t83_66, t83_69, t83_72, t83_74, t83_75, t83_76, t83_79, t83_82, t83_83, t83_86, t83_89, t83_90, t83_93, t83_94, t83_95, t83_96, t83_99, t83_100, t83_103, t83_104, t83_107, t83_108, t83_110, t83_113, t83_114, t83_116, t83_119, t83_121, t83_123, t83_126, t83_128, t83_130, t83_133, t83_135, t83_136, t83_137, t83_140, t83_143, t83_144, t83_145, t83_147, t83_150, t83_153, t83_156, t83_158, t83_159, t83_160, t83_161, t83_164, t83_165, t83_168, t83_171, t83_172, t83_175, t83_178, t83_180, t83_181, t83_183, t83_184, t83_186, t83_189, t83_191, t83_194, t83_197, t83_198, t83_200, t83_203, t83_205, t83_208, t83_209, t83_212, t83_213, lk_s, hp_get, hp_set, uH_at, uH_ne, uH_upd, uH_swap, iZ_add, iZ_sub, iZ_mul, iZ_neg, iZ_lt, iZ_le, iZ_eq, iZ_div, iZ_of, ix_Z, gZ_map, gZ_mapI, gZ_map', le_0, le_s, sZ_map, sZ_len, bZ_0, bZ_inj, bZ_t, bZ_f, nr_i, nr_0, nr_1, nr_b, ft_i, ft_b, ft_0, ft_1, zl_0, zl_1, zl_3, zl_4, zl_8, zl_30, m9', hr0, -List.filter_filter, -List.getElem?_map, -List.getD_eq_getElem?_getD]
  by_cases hTe : T = []
  · -- no claim
    have cm0 : clm = 0 := by rw [hcm, decide_eq_false (fun z => z hTe), bZ_f]
    have h4 : rule ≠ 4 := fun z => hT4 z hTe
    obtain ⟨w', N', why, Ds', U', z1, z2, z3, z4, z5, z6⟩ := rules h4 none (fun _ => cm0) (fun C z => by cases z)
    refine ⟨w', N', why, Ds', U', z1, z2, z3, z4, ?_, Gx.run 20 Cs.tt (fun X _ => ?_) z6⟩
    · unfold AVs
      rw [if_neg n30, if_neg tne, if_pos hTe]
      obtain ⟨rr, C', q1, q2⟩ := z5
      refine ⟨rr, C', q1, ?_⟩
      by_cases hr : rr = 0
      · rw [if_pos hr, if_pos (Or.inl rfl)] at q2
        rw [if_pos hr]
        exact q2
      · rw [if_neg hr] at q2
        rw [if_neg hr]
        exact q2
    · rw [cm0] at c0
      simp (disch := first | (refine c1_id ?_; assumption) | (refine c1_st rfl ?_; repeat (first | assumption | refine c1_st rfl ?_)) | omega) [nx_l, nx_r, nx_n, x_st, x_push, x_bin, x_div, x_un, x_dup, x_pop, x_dup2, x_goto, x_ifeq, x_ifne, x_iflt, x_ifge, x_ifgt, x_ifle, x_iceq, x_icne, x_iclt, x_icge, x_icgt, x_icle, x_ifnull, x_ifnonnull, x_ldi, x_lda, x_sti, x_sta, x_iinc, x_gf, x_pf, x_ald, x_ast, x_aln, x_len, x_cl_, x_cv, x_cs, x_rc, x_r0, x_isT, x_oi, x_rv, x_ri, x_ra, Value.category, t83_0, t83_1, t83_4, t83_6, t83_9, t83_11, t83_12, t83_13, t83_14, t83_17, t83_19, t83_20, t83_23, t83_26, t83_27, t83_29, t83_32, t83_35, t83_37, t83_39, t83_41, t83_44, t83_46, t83_49, t83_50, t83_51, t83_53, t83_56, t83_57, t83_59, t83_62, t83_64, t83_66, t83_69, t83_72, t83_74, t83_75, t83_76, t83_79, t83_82, t83_83, t83_86, t83_89, t83_90, t83_93, t83_94, t83_95, t83_96, t83_99, t83_100, t83_103, t83_104, t83_107, t83_108, t83_110, t83_113, t83_114, t83_116, t83_119, t83_121, t83_123, t83_126, t83_128, t83_130, t83_133, t83_135, t83_136, t83_137, t83_140, t83_143, t83_144, t83_145, t83_147, t83_150, t83_153, t83_156, t83_158, t83_159, t83_160, t83_161, t83_164, t83_165, t83_168, t83_171, t83_172, t83_175, t83_178, t83_180, t83_181, t83_183, t83_184, t83_186, t83_189, t83_191, t83_194, t83_197, t83_198, t83_200, t83_203, t83_205, t83_208, t83_209, t83_212, t83_213, lk_s, hp_get, hp_set, uH_at, uH_ne, uH_upd, uH_swap, iZ_add, iZ_sub, iZ_mul, iZ_neg, iZ_lt, iZ_le, iZ_eq, iZ_div, iZ_of, ix_Z, gZ_map, gZ_mapI, gZ_map', le_0, le_s, sZ_map, sZ_len, bZ_0, bZ_inj, bZ_t, bZ_f, nr_i, nr_0, nr_1, nr_b, ft_i, ft_b, ft_0, ft_1, zl_0, zl_1, zl_3, zl_4, zl_8, zl_30, l0, c0, dk, -List.filter_filter, -List.getElem?_map, -List.getD_eq_getElem?_getD]
  · have cm1 : clm = 1 := by rw [hcm, decide_eq_true hTe, bZ_t]
    cases hrd : rdQ T with
    | none =>
      rw [hrd] at hcf
      dsimp only at hcf
      refine same (why := -1) ?_ (Gx.fin 20 Cs.tt (fun X _ => ?_))
      · unfold AVs
        rw [if_neg n30, if_neg tne, if_neg hTe, hrd]
        exact ⟨rfl, rfl, rfl⟩
      · rw [cm1, hcf] at c0
        simp (disch := first | (refine c1_id ?_; assumption) | (refine c1_st rfl ?_; repeat (first | assumption | refine c1_st rfl ?_)) | omega) [nx_l, nx_r, nx_n, x_st, x_push, x_bin, x_div, x_un, x_dup, x_pop, x_dup2, x_goto, x_ifeq, x_ifne, x_iflt, x_ifge, x_ifgt, x_ifle, x_iceq, x_icne, x_iclt, x_icge, x_icgt, x_icle, x_ifnull, x_ifnonnull, x_ldi, x_lda, x_sti, x_sta, x_iinc, x_gf, x_pf, x_ald, x_ast, x_aln, x_len, x_cl_, x_cv, x_cs, x_rc, x_r0, x_isT, x_oi, x_rv, x_ri, x_ra, Value.category, t83_0, t83_1, t83_4, t83_6, t83_9, t83_11, t83_12, t83_13, t83_14, t83_17, t83_19, t83_20, t83_23, t83_26, t83_27, t83_29, t83_32, t83_35, t83_37, t83_39, t83_41, t83_44, t83_46, t83_49, t83_50, t83_51, t83_53, t83_56, t83_57, t83_59, t83_62, t83_64, t83_66, t83_69, t83_72, t83_74, t83_75, t83_76, t83_79, t83_82, t83_83, t83_86, t83_89, t83_90, t83_93, t83_94, t83_95, t83_96, t83_99, t83_100, t83_103, t83_104, t83_107, t83_108, t83_110, t83_113, t83_114, t83_116, t83_119, t83_121, t83_123, t83_126, t83_128, t83_130, t83_133, t83_135, t83_136, t83_137, t83_140, t83_143, t83_144, t83_145, t83_147, t83_150, t83_153, t83_156, t83_158, t83_159, t83_160, t83_161, t83_164, t83_165, t83_168, t83_171, t83_172, t83_175, t83_178, t83_180, t83_181, t83_183, t83_184, t83_186, t83_189, t83_191, t83_194, t83_197, t83_198, t83_200, t83_203, t83_205, t83_208, t83_209, t83_212, t83_213, lk_s, hp_get, hp_set, uH_at, uH_ne, uH_upd, uH_swap, iZ_add, iZ_sub, iZ_mul, iZ_neg, iZ_lt, iZ_le, iZ_eq, iZ_div, iZ_of, ix_Z, gZ_map, gZ_mapI, gZ_map', le_0, le_s, sZ_map, sZ_len, bZ_0, bZ_inj, bZ_t, bZ_f, nr_i, nr_0, nr_1, nr_b, ft_i, ft_b, ft_0, ft_1, zl_0, zl_1, zl_3, zl_4, zl_8, zl_30, l0, c0, dk, -List.filter_filter, -List.getElem?_map, -List.getD_eq_getElem?_getD]
    | some l0' =>
      rw [hrd] at hcf
      dsimp only at hcf
      by_cases hfl : (ntC l0' (U, false)).2 = true
      · rw [if_pos hfl] at hcf
        refine same (why := -2) ?_ (Gx.fin 20 Cs.tt (fun X _ => ?_))
        · unfold AVs
          rw [if_neg n30, if_neg tne, if_neg hTe, hrd]
          dsimp only
          rw [if_pos hfl]
          exact ⟨rfl, rfl, rfl⟩
        · rw [cm1, hcf] at c0
          simp (disch := first | (refine c1_id ?_; assumption) | (refine c1_st rfl ?_; repeat (first | assumption | refine c1_st rfl ?_)) | omega) [nx_l, nx_r, nx_n, x_st, x_push, x_bin, x_div, x_un, x_dup, x_pop, x_dup2, x_goto, x_ifeq, x_ifne, x_iflt, x_ifge, x_ifgt, x_ifle, x_iceq, x_icne, x_iclt, x_icge, x_icgt, x_icle, x_ifnull, x_ifnonnull, x_ldi, x_lda, x_sti, x_sta, x_iinc, x_gf, x_pf, x_ald, x_ast, x_aln, x_len, x_cl_, x_cv, x_cs, x_rc, x_r0, x_isT, x_oi, x_rv, x_ri, x_ra, Value.category, t83_0, t83_1, t83_4, t83_6, t83_9, t83_11, t83_12, t83_13, t83_14, t83_17, t83_19, t83_20, t83_23, t83_26, t83_27, t83_29, t83_32, t83_35, t83_37, t83_39, t83_41, t83_44, t83_46, t83_49, t83_50, t83_51, t83_53, t83_56, t83_57, t83_59, t83_62, t83_64, t83_66, t83_69, t83_72, t83_74, t83_75, t83_76, t83_79, t83_82, t83_83, t83_86, t83_89, t83_90, t83_93, t83_94, t83_95, t83_96, t83_99, t83_100, t83_103, t83_104, t83_107, t83_108, t83_110, t83_113, t83_114, t83_116, t83_119, t83_121, t83_123, t83_126, t83_128, t83_130, t83_133, t83_135, t83_136, t83_137, t83_140, t83_143, t83_144, t83_145, t83_147, t83_150, t83_153, t83_156, t83_158, t83_159, t83_160, t83_161, t83_164, t83_165, t83_168, t83_171, t83_172, t83_175, t83_178, t83_180, t83_181, t83_183, t83_184, t83_186, t83_189, t83_191, t83_194, t83_197, t83_198, t83_200, t83_203, t83_205, t83_208, t83_209, t83_212, t83_213, lk_s, hp_get, hp_set, uH_at, uH_ne, uH_upd, uH_swap, iZ_add, iZ_sub, iZ_mul, iZ_neg, iZ_lt, iZ_le, iZ_eq, iZ_div, iZ_of, ix_Z, gZ_map, gZ_mapI, gZ_map', le_0, le_s, sZ_map, sZ_len, bZ_0, bZ_inj, bZ_t, bZ_f, nr_i, nr_0, nr_1, nr_b, ft_i, ft_b, ft_0, ft_1, zl_0, zl_1, zl_3, zl_4, zl_8, zl_30, l0, c0, dk, -List.filter_filter, -List.getElem?_map, -List.getD_eq_getElem?_getD]
      · rw [if_neg hfl] at hcf
        obtain ⟨cf0, hLC⟩ := hcf
        have hfl' : (ntC l0' (U, false)).2 = false := by simpa using hfl
        have g94 : ∀ res, Gx q_k83 (d + 54) 94 (lv, [], hp w N) res → Gx q_k83 (d + 54) 75 (lv, [], hp w N) res := fun res hres => by
          refine Gx.run 20 Cs.tt (fun X _ => ?_) hres
          rw [cm1, cf0] at c0
          simp (disch := first | (refine c1_id ?_; assumption) | (refine c1_st rfl ?_; repeat (first | assumption | refine c1_st rfl ?_)) | omega) [nx_l, nx_r, nx_n, x_st, x_push, x_bin, x_div, x_un, x_dup, x_pop, x_dup2, x_goto, x_ifeq, x_ifne, x_iflt, x_ifge, x_ifgt, x_ifle, x_iceq, x_icne, x_iclt, x_icge, x_icgt, x_icle, x_ifnull, x_ifnonnull, x_ldi, x_lda, x_sti, x_sta, x_iinc, x_gf, x_pf, x_ald, x_ast, x_aln, x_len, x_cl_, x_cv, x_cs, x_rc, x_r0, x_isT, x_oi, x_rv, x_ri, x_ra, Value.category, t83_0, t83_1, t83_4, t83_6, t83_9, t83_11, t83_12, t83_13, t83_14, t83_17, t83_19, t83_20, t83_23, t83_26, t83_27, t83_29, t83_32, t83_35, t83_37, t83_39, t83_41, t83_44, t83_46, t83_49, t83_50, t83_51, t83_53, t83_56, t83_57, t83_59, t83_62, t83_64, t83_66, t83_69, t83_72, t83_74, t83_75, t83_76, t83_79, t83_82, t83_83, t83_86, t83_89, t83_90, t83_93, t83_94, t83_95, t83_96, t83_99, t83_100, t83_103, t83_104, t83_107, t83_108, t83_110, t83_113, t83_114, t83_116, t83_119, t83_121, t83_123, t83_126, t83_128, t83_130, t83_133, t83_135, t83_136, t83_137, t83_140, t83_143, t83_144, t83_145, t83_147, t83_150, t83_153, t83_156, t83_158, t83_159, t83_160, t83_161, t83_164, t83_165, t83_168, t83_171, t83_172, t83_175, t83_178, t83_180, t83_181, t83_183, t83_184, t83_186, t83_189, t83_191, t83_194, t83_197, t83_198, t83_200, t83_203, t83_205, t83_208, t83_209, t83_212, t83_213, lk_s, hp_get, hp_set, uH_at, uH_ne, uH_upd, uH_swap, iZ_add, iZ_sub, iZ_mul, iZ_neg, iZ_lt, iZ_le, iZ_eq, iZ_div, iZ_of, ix_Z, gZ_map, gZ_mapI, gZ_map', le_0, le_s, sZ_map, sZ_len, bZ_0, bZ_inj, bZ_t, bZ_f, nr_i, nr_0, nr_1, nr_b, ft_i, ft_b, ft_0, ft_1, zl_0, zl_1, zl_3, zl_4, zl_8, zl_30, l0, c0, dk, -List.filter_filter, -List.getElem?_map, -List.getD_eq_getElem?_getD]
        by_cases h4 : rule = 4
        · -- more special
          have gc := (rdQ_ok hrd).2.2
          have gq := rdQ_ok hrd
          obtain ⟨w1, a1, a2, a3⟩ := m84_4 (N := N) (a := n + 1) (d + 41) hN (by omega) c0 gc y4 hLC hMI
          have fM : ∀ j, j ≤ 23 ∨ 27 ≤ j → w1 j = w j := fun j hj => ksMa_out a1 (by omega)
          have CS1 : CS w1 N Ds [] U clm cf lf := h.fr (fun j hj => fM j (by omega)) (by
            obtain ⟨⟨q1, q2, q3, q4, q5, q6, b0⟩, b1, b2⟩ := hDI
            obtain ⟨S, E, B, c, ln, o, ⟨c1', c2', c3', c4'⟩, c5'⟩ := b1
            obtain ⟨l, wt, Sy, Ee, Ro, Fs, Fi, Os, Ot, g1, g2, g3, g4, g5, g6, g7, g8, g9, g10, g11, g12, g13, g14, g15, g16, g17⟩ := b2
            exact ⟨⟨q1, q2, q3, q4, q5, q6, (fM 11 (by omega)).trans b0⟩, ⟨S, E, B, c, ln, o, ⟨(fM 12 (by omega)).trans c1', (fM 13 (by omega)).trans c2', (fM 14 (by omega)).trans c3', (fM 15 (by omega)).trans c4'⟩, c5'⟩, ⟨l, wt, Sy, Ee, Ro, Fs, Fi, Os, Ot, (fM 16 (by omega)).trans g1, (fM 17 (by omega)).trans g2, g3, (fM 18 (by omega)).trans g4, g5, (fM 19 (by omega)).trans g6, g7, g8, (fM 20 (by omega)).trans g9, g10, (fM 21 (by omega)).trans g11, g12, g13, (fM 22 (by omega)).trans g14, g15, (fM 23 (by omega)).trans g16, g17⟩⟩) a2
          have C9 := c1_st (i := 9) (v := .int (iZ 0)) rfl hc
          have L9 := hl.st (q := 9) (v := .int (iZ 0)) (by omega) rfl
          have m7' : x_lk ((9, .int (iZ 0)) :: lv.filter (x_keep 9)) 7 = some (.ref (n + 3)) := by rw [lk_s hc]; exact l7
          have m8' : x_lk ((9, .int (iZ 0)) :: lv.filter (x_keep 9)) 8 = some (.ref (n2 + 3)) := by rw [lk_s hc]; exact l8
          have m9' : x_lk ((9, .int (iZ 0)) :: lv.filter (x_keep 9)) 9 = some (.int (iZ 0)) := by rw [lk_s hc]; rfl
          have g128 : ∀ res, Gx q_k83 (d + 54) 128 ((9, .int (iZ 0)) :: lv.filter (x_keep 9), [], hp w N) res → Gx q_k83 (d + 54) 94 (lv, [], hp w N) res := fun res hres => by
            refine Gx.run 20 Cs.tt (fun X _ => ?_) hres
            rw [h4] at l1
            simp (disch := first | (refine c1_id ?_; assumption) | (refine c1_st rfl ?_; repeat (first | assumption | refine c1_st rfl ?_)) | omega) [nx_l, nx_r, nx_n, x_st, x_push, x_bin, x_div, x_un, x_dup, x_pop, x_dup2, x_goto, x_ifeq, x_ifne, x_iflt, x_ifge, x_ifgt, x_ifle, x_iceq, x_icne, x_iclt, x_icge, x_icgt, x_icle, x_ifnull, x_ifnonnull, x_ldi, x_lda, x_sti, x_sta, x_iinc, x_gf, x_pf, x_ald, x_ast, x_aln, x_len, x_cl_, x_cv, x_cs, x_rc, x_r0, x_isT, x_oi, x_rv, x_ri, x_ra, Value.category, t83_0, t83_1, t83_4, t83_6, t83_9, t83_11, t83_12, t83_13, t83_14, t83_17, t83_19, t83_20, t83_23, t83_26, t83_27, t83_29, t83_32, t83_35, t83_37, t83_39, t83_41, t83_44, t83_46, t83_49, t83_50, t83_51, t83_53, t83_56, t83_57, t83_59, t83_62, t83_64, t83_66, t83_69, t83_72, t83_74, t83_75, t83_76, t83_79, t83_82, t83_83, t83_86, t83_89, t83_90, t83_93, t83_94, t83_95, t83_96, t83_99, t83_100, t83_103, t83_104, t83_107, t83_108, t83_110, t83_113, t83_114, t83_116, t83_119, t83_121, t83_123, t83_126, t83_128, t83_130, t83_133, t83_135, t83_136, t83_137, t83_140, t83_143, t83_144, t83_145, t83_147, t83_150, t83_153, t83_156, t83_158, t83_159, t83_160, t83_161, t83_164, t83_165, t83_168, t83_171, t83_172, t83_175, t83_178, t83_180, t83_181, t83_183, t83_184, t83_186, t83_189, t83_191, t83_194, t83_197, t83_198, t83_200, t83_203, t83_205, t83_208, t83_209, t83_212, t83_213, lk_s, hp_get, hp_set, uH_at, uH_ne, uH_upd, uH_swap, iZ_add, iZ_sub, iZ_mul, iZ_neg, iZ_lt, iZ_le, iZ_eq, iZ_div, iZ_of, ix_Z, gZ_map, gZ_mapI, gZ_map', le_0, le_s, sZ_map, sZ_len, bZ_0, bZ_inj, bZ_t, bZ_f, nr_i, nr_0, nr_1, nr_b, ft_i, ft_b, ft_0, ft_1, zl_0, zl_1, zl_3, zl_4, zl_8, zl_30, l1, -List.filter_filter, -List.getElem?_map, -List.getD_eq_getElem?_getD]
          generalize ((9, .int (iZ 0)) :: lv.filter (x_keep 9) : xL) = lv9 at C9 L9 m7' m8' m9' g128
          have L9' := L9
          obtain ⟨_, k0, k1, k2, k3, k4, k5, k6⟩ := L9'
          rw [h4] at k1
          rw [cm1] at c0
          cases hdf : dfs (mtL (cl Ds i.toNat).1 (rnD (uqs [] l0'))) (rnD (uqs [] l0')).length (cl Ds i.toNat).1.length 0 (fun _ => []) with
          | true =>
            rw [hdf, bZ_t] at a3
            have lw := read_LW hrd uk.1 hfl'
            have n9 : no9 (rnD (uqs [] l0')) := fun y hy => (lw y hy).n9
            have e1 : ntC (rnD (uqs [] l0')) (U, false) = ntC (uqs [] l0') (U, false) := ntC_rnD gq.2.1 _
            have sm := nt_uqs uk.1 l0' [] (fun y hy => by cases hy) (rdQ_lt hrd)
            have ef : (ntC (uqs [] l0') (U, false)).2 = (ntC l0' (U, false)).2 := sm.1
            have er : (ntC (uqs [] l0') (U, false)).1 = (ntC l0' (U, false)).1 := sm.2 (by rw [ef]; exact hfl')
            have hL7 : LA w1 (if rule = 4 then 7 else 12) (rnD (uqs [] l0')) := by
              rw [if_pos h4]
              exact hLC.mv (fun j j0 j1 => fM j (by omega))
            obtain ⟨w2, N2, z1, z2, z3, z4, z5⟩ := E83 d CS1 h30 hR rule i k j l p i0 i1 (fun z => by omega) r0 r1 n n2 (hn.mv (Nat.le_refl _) (fun j j0 _ => fM j (by omega))) (fun z => (hn2 z).mv (Nat.le_refl _) (fun j j0 _ => fM j (by omega))) hnn lv9 L9 m7' m8' hL7 gc n9 (by rw [e1, ef]; exact hfl')
            rw [e1, er] at z3
            refine ⟨w2, N2, 0, _, _, z1, by rw [if_neg (dsne _)]; exact z2, z3, fun j j0 j1 => (z4 j j0 j1).trans (fM j (by omega)), ?_, g94 _ (g128 _ (Gx.run 40 a3 (fun X mm => ?_) z5))⟩
            · unfold AVs
              rw [if_neg n30, if_neg tne, if_neg hTe, hrd]
              dsimp only
              rw [if_neg hfl, if_pos h4]
              have hdf' : dfs (mtL (cl1 Ds i) (rnD (uqs [] l0'))) (rnD (uqs [] l0')).length (cl1 Ds i).length 0 (fun _ => []) = true := hdf
              rw [if_pos hdf']
              exact ⟨rfl, rfl, rfl⟩
            · simp (disch := first | (refine c1_id ?_; assumption) | (refine c1_st rfl ?_; repeat (first | assumption | refine c1_st rfl ?_)) | omega) [nx_l, nx_r, nx_n, x_st, x_push, x_bin, x_div, x_un, x_dup, x_pop, x_dup2, x_goto, x_ifeq, x_ifne, x_iflt, x_ifge, x_ifgt, x_ifle, x_iceq, x_icne, x_iclt, x_icge, x_icgt, x_icle, x_ifnull, x_ifnonnull, x_ldi, x_lda, x_sti, x_sta, x_iinc, x_gf, x_pf, x_ald, x_ast, x_aln, x_len, x_cl_, x_cv, x_cs, x_rc, x_r0, x_isT, x_oi, x_rv, x_ri, x_ra, Value.category, t83_0, t83_1, t83_4, t83_6, t83_9, t83_11, t83_12, t83_13, t83_14, t83_17, t83_19, t83_20, t83_23, t83_26, t83_27, t83_29, t83_32, t83_35, t83_37, t83_39, t83_41, t83_44, t83_46, t83_49, t83_50, t83_51, t83_53, t83_56, t83_57, t83_59, t83_62, t83_64, t83_66, t83_69, t83_72, t83_74, t83_75, t83_76, t83_79, t83_82, t83_83, t83_86, t83_89, t83_90, t83_93, t83_94, t83_95, t83_96, t83_99, t83_100, t83_103, t83_104, t83_107, t83_108, t83_110, t83_113, t83_114, t83_116, t83_119, t83_121, t83_123, t83_126, t83_128, t83_130, t83_133, t83_135, t83_136, t83_137, t83_140, t83_143, t83_144, t83_145, t83_147, t83_150, t83_153, t83_156, t83_158, t83_159, t83_160, t83_161, t83_164, t83_165, t83_168, t83_171, t83_172, t83_175, t83_178, t83_180, t83_181, t83_183, t83_184, t83_186, t83_189, t83_191, t83_194, t83_197, t83_198, t83_200, t83_203, t83_205, t83_208, t83_209, t83_212, t83_213, lk_s, hp_get, hp_set, uH_at, uH_ne, uH_upd, uH_swap, iZ_add, iZ_sub, iZ_mul, iZ_neg, iZ_lt, iZ_le, iZ_eq, iZ_div, iZ_of, ix_Z, gZ_map, gZ_mapI, gZ_map', le_0, le_s, sZ_map, sZ_len, bZ_0, bZ_inj, bZ_t, bZ_f, nr_i, nr_0, nr_1, nr_b, ft_i, ft_b, ft_0, ft_1, zl_0, zl_1, zl_3, zl_4, zl_8, zl_30, k0, k1, m7', m9', c0, y3, mm, dk, -List.filter_filter, -List.getElem?_map, -List.getD_eq_getElem?_getD]
          | false =>
            rw [hdf, bZ_f] at a3
            refine ⟨w1, N, -8, Ds, U, Nat.le_refl _, by omega, CS1, fun j j0 j1 => fM j (by omega), ?_, g94 _ (g128 _ (Gx.fin 40 a3 (fun X mm => ?_)))⟩
            · unfold AVs
              rw [if_neg n30, if_neg tne, if_neg hTe, hrd]
              dsimp only
              rw [if_neg hfl, if_pos h4]
              have hdf' : dfs (mtL (cl1 Ds i) (rnD (uqs [] l0'))) (rnD (uqs [] l0')).length (cl1 Ds i).length 0 (fun _ => []) = false := hdf
              rw [hdf', if_neg (by decide)]
              exact ⟨rfl, rfl, rfl⟩
            · simp (disch := first | (refine c1_id ?_; assumption) | (refine c1_st rfl ?_; repeat (first | assumption | refine c1_st rfl ?_)) | omega) [nx_l, nx_r, nx_n, x_st, x_push, x_bin, x_div, x_un, x_dup, x_pop, x_dup2, x_goto, x_ifeq, x_ifne, x_iflt, x_ifge, x_ifgt, x_ifle, x_iceq, x_icne, x_iclt, x_icge, x_icgt, x_icle, x_ifnull, x_ifnonnull, x_ldi, x_lda, x_sti, x_sta, x_iinc, x_gf, x_pf, x_ald, x_ast, x_aln, x_len, x_cl_, x_cv, x_cs, x_rc, x_r0, x_isT, x_oi, x_rv, x_ri, x_ra, Value.category, t83_0, t83_1, t83_4, t83_6, t83_9, t83_11, t83_12, t83_13, t83_14, t83_17, t83_19, t83_20, t83_23, t83_26, t83_27, t83_29, t83_32, t83_35, t83_37, t83_39, t83_41, t83_44, t83_46, t83_49, t83_50, t83_51, t83_53, t83_56, t83_57, t83_59, t83_62, t83_64, t83_66, t83_69, t83_72, t83_74, t83_75, t83_76, t83_79, t83_82, t83_83, t83_86, t83_89, t83_90, t83_93, t83_94, t83_95, t83_96, t83_99, t83_100, t83_103, t83_104, t83_107, t83_108, t83_110, t83_113, t83_114, t83_116, t83_119, t83_121, t83_123, t83_126, t83_128, t83_130, t83_133, t83_135, t83_136, t83_137, t83_140, t83_143, t83_144, t83_145, t83_147, t83_150, t83_153, t83_156, t83_158, t83_159, t83_160, t83_161, t83_164, t83_165, t83_168, t83_171, t83_172, t83_175, t83_178, t83_180, t83_181, t83_183, t83_184, t83_186, t83_189, t83_191, t83_194, t83_197, t83_198, t83_200, t83_203, t83_205, t83_208, t83_209, t83_212, t83_213, lk_s, hp_get, hp_set, uH_at, uH_ne, uH_upd, uH_swap, iZ_add, iZ_sub, iZ_mul, iZ_neg, iZ_lt, iZ_le, iZ_eq, iZ_div, iZ_of, ix_Z, gZ_map, gZ_mapI, gZ_map', le_0, le_s, sZ_map, sZ_len, bZ_0, bZ_inj, bZ_t, bZ_f, nr_i, nr_0, nr_1, nr_b, ft_i, ft_b, ft_0, ft_1, zl_0, zl_1, zl_3, zl_4, zl_8, zl_30, k0, k1, m7', m9', c0, y3, mm, dk, -List.filter_filter, -List.getElem?_map, -List.getD_eq_getElem?_getD]
        · obtain ⟨w', N', why, Ds', U', z1, z2, z3, z4, z5, z6⟩ := rules h4 (some (rnD (uqs [] l0'))) (fun z => by cases z) (fun C z => by cases z; exact ⟨cm1, hLC⟩)
          refine ⟨w', N', why, Ds', U', z1, z2, z3, z4, ?_, g94 _ z6⟩
          unfold AVs
          rw [if_neg n30, if_neg tne, if_neg hTe, hrd]
          dsimp only
          rw [if_neg hfl, if_neg h4]
          obtain ⟨rr, C', q1, q2⟩ := z5
          refine ⟨rr, C', q1, ?_⟩
          by_cases hr : rr = 0
          · rw [if_pos hr] at q2 ⊢
            by_cases hCC : C' = rnD (uqs [] l0')
            · rw [if_pos (Or.inr (by rw [hCC]))] at q2
              rw [if_pos hCC]
              exact q2
            · have hne : ¬ ((some (rnD (uqs [] l0')) : Option (List (Int × List Int))) = none ∨ some (rnD (uqs [] l0')) = some C') := fun z => by
                rcases z with z | z
                · cases z
                · injection z with z
                  exact hCC z.symm
              rw [if_neg hne] at q2
              rw [if_neg hCC]
              exact q2
          · rw [if_neg hr] at q2 ⊢
            exact q2
theorem m83 (d : Nat) (h : CS w N Ds [] U clm cf lf) (hT : TD T U clm cf w) (hK : KI Ds U) (hR : HR Ds) (rule i k j l p : Int) (rr : -2147483648 ≤ rule ∧ rule < 2147483648) (ir : -2147483648 ≤ i ∧ i < 2147483648) (kr : -2147483648 ≤ k ∧ k < 2147483648) (jr : -2147483648 ≤ j ∧ j < 2147483648) (lr : -2147483648 ≤ l ∧ l < 2147483648) (pr : -2147483648 ≤ p ∧ p < 2147483648) :
    ∃ (w' : Nat → xC) (N' : Nat) (why : Int) (Ds' : List (List (Int × List Int) × Bool × Int × Int)) (U' : List Int), N ≤ N' ∧ N' ≤ N + (if Ds' = Ds then 0 else 206) ∧ CS w' N' Ds' [] U' clm cf lf ∧ (∀ j, 27 ≤ j → j < N → w' j = w j) ∧ AVs Ds T U rule i k j l p why Ds' U' ∧ Gx q_k83 (d + 54) 0 (lv_args 0 [.ref 3, .int (iZ rule), .int (iZ i), .int (iZ k), .int (iZ j), .int (iZ l), .int (iZ p)], [], hp w N) (some (.int (iZ why)), hp w' N') := by
  have hc : c1 (lv_args 0 [.ref 3, .int (iZ rule), .int (iZ i), .int (iZ k), .int (iZ j), .int (iZ l), .int (iZ p)]) := by simp [c1, lv_args, Value.category]
  have hl : lv83 (lv_args 0 [.ref 3, .int (iZ rule), .int (iZ i), .int (iZ k), .int (iZ j), .int (iZ l), .int (iZ p)]) rule i k j l p := ⟨hc, rfl, rfl, rfl, rfl, rfl, rfl, rfl⟩
  generalize lv_args 0 [.ref 3, .int (iZ rule), .int (iZ i), .int (iZ k), .int (iZ j), .int (iZ l), .int (iZ p)] = lv at hc hl ⊢
  have hN := h.2.2.2.2.2.2.2.2.2.2.2.1
  by_cases h30 : Ds.length = 30
  · refine ⟨w, N, -3, Ds, U, Nat.le_refl _, by omega, h, fun _ _ _ => rfl, by unfold AVs; rw [if_pos h30]; exact ⟨rfl, rfl, rfl⟩, Gx.fin 20 Cs.tt (fun X _ => ?_)⟩
    obtain ⟨_, l0, _⟩ := hl
    have c0 := h.1
    have e30 : (Ds.length : Int) = 30 := by omega
    rw [e30] at c0
    simp (disch := first | (refine c1_id ?_; assumption) | (refine c1_st rfl ?_; repeat (first | assumption | refine c1_st rfl ?_)) | omega) [nx_l, nx_r, nx_n, x_st, x_push, x_bin, x_div, x_un, x_dup, x_pop, x_dup2, x_goto, x_ifeq, x_ifne, x_iflt, x_ifge, x_ifgt, x_ifle, x_iceq, x_icne, x_iclt, x_icge, x_icgt, x_icle, x_ifnull, x_ifnonnull, x_ldi, x_lda, x_sti, x_sta, x_iinc, x_gf, x_pf, x_ald, x_ast, x_aln, x_len, x_cl_, x_cv, x_cs, x_rc, x_r0, x_isT, x_oi, x_rv, x_ri, x_ra, Value.category, t83_0, t83_1, t83_4, t83_6, t83_9, t83_11, t83_12, t83_13, t83_14, t83_17, t83_19, t83_20, t83_23, t83_26, t83_27, t83_29, t83_32, t83_35, t83_37, t83_39, t83_41, t83_44, t83_46, t83_49, t83_50, t83_51, t83_53, t83_56, t83_57, t83_59, t83_62, t83_64, t83_66, t83_69, t83_72, t83_74, t83_75, t83_76, t83_79, t83_82, t83_83, t83_86, t83_89, t83_90, t83_93, t83_94, t83_95, t83_96, t83_99, t83_100, t83_103, t83_104, t83_107, t83_108, t83_110, t83_113, t83_114, t83_116, t83_119, t83_121, t83_123, t83_126, t83_128, t83_130, t83_133, t83_135, t83_136, t83_137, t83_140, t83_143, t83_144, t83_145, t83_147, t83_150, t83_153, t83_156, t83_158, t83_159, t83_160, t83_161, t83_164, t83_165, t83_168, t83_171, t83_172, t83_175, t83_178, t83_180, t83_181, t83_183, t83_184, t83_186, t83_189, t83_191, t83_194, t83_197, t83_198, t83_200, t83_203, t83_205, t83_208, t83_209, t83_212, t83_213, lk_s, hp_get, hp_set, uH_at, uH_ne, uH_upd, uH_swap, iZ_add, iZ_sub, iZ_mul, iZ_neg, iZ_lt, iZ_le, iZ_eq, iZ_div, iZ_of, ix_Z, gZ_map, gZ_mapI, gZ_map', le_0, le_s, sZ_map, sZ_len, bZ_0, bZ_inj, bZ_t, bZ_f, nr_i, nr_0, nr_1, nr_b, ft_i, ft_b, ft_0, ft_1, zl_0, zl_1, zl_3, zl_4, zl_8, zl_30, l0, c0, dk, -List.filter_filter, -List.getElem?_map, -List.getD_eq_getElem?_getD]
  · have h30' : Ds.length < 30 := by
      have := h.2.1
      omega
    obtain ⟨p1, p2⟩ := P83 (T := T) d h hT.1 rule i k j l p rr ir kr jr lr pr lv hl h30'
    cases ht : thB Ds T rule i k j l p with
    | false =>
      refine ⟨w, N, -4, Ds, U, Nat.le_refl _, by omega, h, fun _ _ _ => rfl, ?_, p1 ht⟩
      unfold AVs
      rw [if_neg h30, if_pos ht]
      exact ⟨rfl, rfl, rfl⟩
    | true =>
      obtain ⟨n, n2, lv', a1, a2, a3, a4, a5, a6, a7⟩ := p2 ht
      obtain ⟨w', N', why, Ds', U', z1, z2, z3, z4, z5, z6⟩ := Q83 d h hT hK hR h30' rule i k j l p lr pr ht n n2 a1 a2 a3 lv' a4 a5 a6
      exact ⟨w', N', why, Ds', U', z1, z2, z3, z4, z5, a7 _ z6⟩
end ATU
