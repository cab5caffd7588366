/-! the reference: the draft is read, to its end -/

section RF
variable {w : Nat → xC} {N : Nat} {m : Nat → Int} {x : Nat → List Int} {C : List (Int × List Int)}
theorem sg_e {D : List Int} {a b : Int} (h0 : 0 ≤ a) (hab : a ≤ b) (hb : b ≤ D.length) (h : seg D a b = []) : a = b := by
  by_cases hlt : a < b
  · rw [seg_cons h0 hlt (by omega)] at h
    cases h
  · omega
set_option maxHeartbeats 2000000 in
theorem L105 (d : Nat) (hN : 53 ≤ N) : ∀ (k : Nat) (w : Nat → xC) (m : Nat → Int) (x : Nat → List Int) (C : List (Int × List Int)) (ov u : Bool) (lv : xL), RO w m x → RI x → RW C (x 38) (x 39) (x 41) → vC C → C.length ≤ 6 → (ov = true → C.length = 6) → m 8 = C.length → m 7 = (flt C).length → m 7 ≤ m 4 → UOK (x 36) → m 6 = bZ u → m 5 = 0 → (∀ i, 0 ≤ i → i < m 3 → 0 ≤ gZ (x 37) i ∧ gZ (x 37) i < 128) → 0 ≤ m 4 → m 4 ≤ m 3 → m 3 ≤ 60 → (seg (x 37) (m 4) (m 3)).length < k → lR lv ov true → E105 d N w m x 83 lv (FinC (rdC 30 k (seg (x 37) (m 4) (m 3))) C ov (x 36, u)) := by
  intro k
  induction k with
  | zero =>
    intro w m x C ov u lv h hI hW hv hc6 hov e8 e7 h74 hU h6 h5 hd h4 h43 h3 hk hl
    omega
  | succ k ih =>
    intro w m x C ov u lv h hI hW hv hc6 hov e8 e7 h74 hU h6 h5 hd h4 h43 h3 hk hl
    have n37 : (x 37).length = 60 := (h.2 37 (by decide) (by decide)).2
    have H := m103 d hN h hI hW hv hc6 e8 e7 u hU h6 h5 hd h4 h43 h3 h74
    cases hL : rdL 30 (seg (x 37) (m 4) (m 3)) with
    | none =>
      have e : rdC 30 (k + 1) (seg (x 37) (m 4) (m 3)) = none := by rw [rdC, hL]
      rw [e]
      obtain ⟨w1, m1, x1, u', a1, a2, a3, a4, a5, a6, a7, a8, a9, a10, a11, a12, a13⟩ := H.2 hL
      have y3 : m1 3 = m 3 := a5 3 (by decide) (by decide) (by decide) (by decide) (by decide)
      have x37 : x1 37 = x 37 := a4 37 (by decide)
      have mid : ∃ (w2 : Nat → xC) (m2 : Nat → Int) (ov2 : Bool) (lv2 : xL), RO w2 m2 x1 ∧ Fr ksL2 w1 w2 ∧ mL m1 m2 ∧ m2 4 = m1 4 ∧ m2 5 = m1 5 ∧ lR lv2 ov2 true ∧ ∀ res, Gx q_k105 (d + 4) 138 (lv2, [], hp w2 N) res → Gx q_k105 (d + 4) 98 (lv, [], hp w1 N) res := by
        by_cases ho : ov = true ∨ 6 < m1 8
        · exact ⟨_, _, true, _, a1.fld _, (Fr.rf _ _).up (by decide), fun i _ _ _ i7 i8 => by rw [st_ne i8, st_ne i7], by rw [st_ne (by decide), st_ne (by decide)], by rw [st_ne (by decide), st_ne (by decide)], hl.o true, q105_98y d hN a1.1 (a1.2 39 (by decide) (by decide)).1 (a1.2 39 (by decide) (by decide)).2 a9 a10 ho hl⟩
        · have ho1 : ov = false := by
            cases ov
            · rfl
            · exact absurd (Or.inl rfl) ho
          subst ho1
          exact ⟨w1, m1, false, _, a1, Fr.rf _ _, fun _ _ _ _ _ _ => rfl, rfl, rfl, hl.o false, q105_98n d hN a1.1 a9 (by omega) hl⟩
      obtain ⟨w2, m2, ov2, lv2, c1_, c2, c3, c4, c5, c6, c7⟩ := mid
      have z3 : m2 3 = m1 3 := c3 3 (by decide) (by decide) (by decide) (by decide) (by decide)
      have X := m96 (D := x 37) (d + 2) hN c1_.1 (by rw [← x37]; exact (c1_.2 37 (by decide) (by decide)).1) n37 (by omega) (by omega) (by omega) (by rw [z3, y3]; exact hd) 124 (by omega) (by omega)
      have g138 := q105_138 d hN c1_.1 _ c6 X
      have R3 := c1_.fld (st_ m2 4 (m2 4 + bZ (decide (heZ (x 37) (m2 4) (m2 3) = 124))))
      have gb := q105_bad (N := N) d hN R3.1 (by rw [st_ne (by decide)]; omega) (c6.m (decide (heZ (x 37) (m2 4) (m2 3) = 124)))
      exact ⟨_, _, x1, -1, R3, a2, (a3.tr c2).up (by decide), a4, fun i i4 i5 i6 i7 i8 => by rw [st_ne i4]; exact (c3 i i4 i5 i6 i7 i8).trans (a5 i i4 i5 i6 i7 i8), a12, rfl, q105_83 d hN h.1 h5 hl a13 _ (c7 _ (g138 _ gb))⟩
    | some q =>
      obtain ⟨⟨b, A⟩, r1⟩ := q
      have ok := rdL_ok hL
      obtain ⟨w1, m1, x1, a1, a2, a3, a4, a5, a6, a7, a8, a9, a10, a11, a12, a13, a14, a15, a16, a17, a18⟩ := H.1 b A r1 hL
      have y3 : m1 3 = m 3 := a5 3 (by decide) (by decide) (by decide) (by decide) (by decide)
      have x37 : x1 37 = x 37 := a4 37 (by decide)
      have adl : (adL C (b, A)).length ≤ C.length + 1 := by
        unfold adL
        split
        · omega
        · simp
      have mid : ∃ (w2 : Nat → xC) (m2 : Nat → Int) (ov2 : Bool) (C2 : List (Int × List Int)) (lv2 : xL), RO w2 m2 x1 ∧ Fr ksL2 w1 w2 ∧ mL m1 m2 ∧ m2 4 = m1 4 ∧ m2 5 = m1 5 ∧ m2 6 = m1 6 ∧ lR lv2 ov2 true ∧ RW C2 (x1 38) (x1 39) (x1 41) ∧ vC C2 ∧ C2.length ≤ 6 ∧ (ov2 = true → C2.length = 6) ∧ m2 8 = C2.length ∧ m2 7 = (flt C2).length ∧ m2 7 ≤ m2 4 ∧ ((ov2 = true ∧ (ov = true ∨ 6 < (adL C (b, A)).length)) ∨ (ov2 = false ∧ ov = false ∧ (adL C (b, A)).length ≤ 6 ∧ C2 = adL C (b, A))) ∧ ∀ res, Gx q_k105 (d + 4) 138 (lv2, [], hp w2 N) res → Gx q_k105 (d + 4) 98 (lv, [], hp w1 N) res := by
        by_cases ho : ov = true ∨ 6 < m1 8
        · have c6e : C.length = 6 := by
            rcases ho with ho | ho
            · exact hov ho
            · omega
          have WC : RW C (x1 38) (x1 39) (x1 41) := by
            by_cases hx : (b, A) ∈ C
            · have ea : adL C (b, A) = C := if_pos hx
              rw [ea] at a10
              exact a10
            · have ea : adL C (b, A) = C ++ [(b, A)] := if_neg hx
              rw [ea] at a10
              exact a10.pop
          have s6 : gZ (x1 39) 6 = (flt C).length := by
            have := WC.2.1 C.length (Nat.le_refl _)
            rw [stC_all, c6e] at this
            exact this
          exact ⟨_, _, true, C, _, a1.fld _, (Fr.rf _ _).up (by decide), fun i _ _ _ i7 i8 => by rw [st_ne i8, st_ne i7], by rw [st_ne (by decide), st_ne (by decide)], by rw [st_ne (by decide), st_ne (by decide)], by rw [st_ne (by decide), st_ne (by decide)], hl.o true, WC, hv, hc6, fun _ => c6e, by rw [st_at]; omega, by rw [st_ne (by decide), st_at]; exact s6, by rw [st_ne (by decide), st_at, st_ne (by decide), st_ne (by decide), s6]; omega, Or.inl ⟨rfl, by
            rcases ho with ho | ho
            · exact Or.inl ho
            · exact Or.inr (by omega)⟩, q105_98y d hN a1.1 (a1.2 39 (by decide) (by decide)).1 (a1.2 39 (by decide) (by decide)).2 (by omega) (by omega) ho hl⟩
        · have ho1 : ov = false := by
            cases ov
            · rfl
            · exact absurd (Or.inl rfl) ho
          subst ho1
          have ho2 : m1 8 ≤ 6 := by
            by_cases z : 6 < m1 8
            · exact absurd (Or.inr z) ho
            · omega
          exact ⟨w1, m1, false, adL C (b, A), _, a1, Fr.rf _ _, fun _ _ _ _ _ _ => rfl, rfl, rfl, rfl, hl.o false, a10, a11, by omega, fun z => (by cases z), a12, a13, a14, Or.inr ⟨rfl, rfl, by omega, rfl⟩, q105_98n d hN a1.1 (by omega) ho2 hl⟩
      obtain ⟨w2, m2, ov2, C2, lv2, c1_, c2, c3, c4, c5, c6, c7, c8, c9, c10, c11, c12, c13, c14, c15, c16⟩ := mid
      have z3 : m2 3 = m1 3 := c3 3 (by decide) (by decide) (by decide) (by decide) (by decide)
      have hsg : seg (x 37) (m2 4) (m2 3) = r1 := by rw [c4, z3]; exact a7
      have FR : Fr ksL2 w w2 := a3.tr c2
      have MR : mL m m2 := a5.tr c3
      have T2 : TR w2 m2 (x 37) (x1 38) (x1 49) := by
        have := c1_.tr (by rw [x37, z3, y3]; exact hd) (by omega) (by omega) (by omega) (by omega) c14
        rw [x37] at this
        exact this
      have stop : heZ (x 37) (m2 4) (m2 3) ≠ 124 → (∀ code, (code = if ov2 = false ∧ m2 4 = m2 3 ∧ m2 7 ≤ 40 then (if (ntA A (x 36, u)).2 = true then -2 else 0) else -1) → FinC (rdC 30 (k + 1) (seg (x 37) (m 4) (m 3))) C ov (x 36, u) code m2 x1) → E105 d N w m x 83 lv (FinC (rdC 30 (k + 1) (seg (x 37) (m 4) (m 3))) C ov (x 36, u)) := fun hne hfin => by
        have X := x96n (c := 124) (d + 2) hN T2 hne (by omega) (by omega)
        have g138 := q105_138 d hN c1_.1 false c7 X
        obtain ⟨code, hcode, gE⟩ := q105_end (N := N) d hN c1_.1 (by omega) (ntA A (x 36, u)).2 (by rw [c6]; exact a16) (by omega) (by omega) (by omega) (by omega) (by omega) (c7.m false)
        exact ⟨w2, m2, x1, code, c1_, a2, FR, a4, MR, a17, hfin code hcode, q105_83 d hN h.1 h5 hl a18 _ (c16 _ (g138 _ gE))⟩
      cases r1 with
      | nil =>
        have e : rdC 30 (k + 1) (seg (x 37) (m 4) (m 3)) = some [(b, A)] := by rw [rdC, hL]
        have h0 := sg_0 (by omega) (by omega) hsg
        have he := sg_e (by omega) (by omega) (by omega) hsg
        refine stop (by omega) (fun code hcode => ?_)
        rw [e]
        have eu : uqs C [(b, A)] = adL C (b, A) := uqs_ad C (b, A) []
        show (¬ (ov = false ∧ (uqs C [(b, A)]).length ≤ 6 ∧ (flt (uqs C [(b, A)])).length ≤ 40) ∧ code = -1) ∨ _
        rw [eu]
        rcases c15 with ⟨o1, o2⟩ | ⟨o1, o2, o3, o4⟩
        · refine Or.inl ⟨fun z => ?_, ?_⟩
          · rcases o2 with o2 | o2
            · rw [o2] at z
              cases z.1
            · omega
          · rw [hcode, if_neg (fun z => by rw [o1] at z; cases z.1)]
        · rw [o4] at c13
          by_cases h40 : (flt (adL C (b, A))).length ≤ 40
          · refine Or.inr ⟨⟨o2, o3, h40⟩, ?_, by rw [← o4]; exact c8, by rw [← o4]; exact c9, by rw [c12, o4], c13, a15⟩
            rw [hcode, if_pos ⟨o1, he, by omega⟩]
            rfl
          · refine Or.inl ⟨fun z => h40 z.2.2, ?_⟩
            rw [hcode, if_neg (fun z => h40 (by omega))]
      | cons c r2 =>
        obtain ⟨s1, s2, s3⟩ := sg_c (by omega) (by omega) hsg
        by_cases c124 : c = 124
        · have e : rdC 30 (k + 1) (seg (x 37) (m 4) (m 3)) = (rdC 30 k r2).map (fun l => (b, A) :: l) := by
            rw [rdC, hL]
            dsimp only
            rw [if_pos c124]
          have X := x96y (c := 124) (d + 2) hN T2 (by omega) (by omega) (by omega)
          have g138 := q105_138 d hN c1_.1 true c7 X
          have R3 := c1_.fld (st_ m2 4 (m2 4 + 1))
          have ok2 := ok.2.2.1
          simp only [List.length_cons] at ok2
          have v3 : st_ m2 4 (m2 4 + 1) 3 = m2 3 := st_ne (by decide)
          have v4 : st_ m2 4 (m2 4 + 1) 4 = m2 4 + 1 := st_at _ _ _
          have v7 : st_ m2 4 (m2 4 + 1) 7 = m2 7 := st_ne (by decide)
          have E := ih _ _ x1 C2 ov2 (ntA A (x 36, u)).2 _ R3 a2 c8 c9 c10 c11 (by rw [st_ne (by decide)]; exact c12) (by rw [v7]; exact c13) (by rw [v7, v4]; omega) a17 (by rw [st_ne (by decide), c6]; exact a16) (by rw [st_ne (by decide)]; omega) (by rw [x37, v3, z3, y3]; exact hd) (by rw [v4]; omega) (by rw [v4, v3]; omega) (by rw [v3]; omega) (by rw [x37, v4, v3, s3]; omega) (c7.m true)
          rw [x37, v4, v3, s3] at E
          rw [e]
          refine E.back (FR.up (by decide)) a4 (fun i i4 i5 i6 i7 i8 => by rw [st_ne i4]; exact MR i i4 i5 i6 i7 i8) (fun code m' x' hq => ?_) (fun res hg => q105_83 d hN h.1 h5 hl a18 _ (c16 _ (g138 _ hg)))
          cases hR : rdC 30 k r2 with
          | none =>
            rw [hR] at hq
            exact hq
          | some l =>
            rw [hR] at hq
            have eu : uqs C ((b, A) :: l) = uqs (adL C (b, A)) l := uqs_ad C (b, A) l
            show (¬ (ov = false ∧ (uqs C ((b, A) :: l)).length ≤ 6 ∧ (flt (uqs C ((b, A) :: l))).length ≤ 40) ∧ code = -1) ∨ _
            rw [eu]
            have hq' : (¬ (ov2 = false ∧ (uqs C2 l).length ≤ 6 ∧ (flt (uqs C2 l)).length ≤ 40) ∧ code = -1) ∨ ((ov2 = false ∧ (uqs C2 l).length ≤ 6 ∧ (flt (uqs C2 l)).length ≤ 40) ∧ (code = if (ntC l (x1 36, (ntA A (x 36, u)).2)).2 = true then -2 else 0) ∧ RW (uqs C2 l) (x' 38) (x' 39) (x' 41) ∧ vC (uqs C2 l) ∧ m' 8 = (uqs C2 l).length ∧ m' 7 = (flt (uqs C2 l)).length ∧ x' 36 = (ntC l (x1 36, (ntA A (x 36, u)).2)).1) := hq
            rw [a15] at hq'
            rcases c15 with ⟨o1, o2⟩ | ⟨o1, o2, o3, o4⟩
            · refine Or.inl ⟨fun z => ?_, ?_⟩
              · rcases o2 with o2 | o2
                · rw [o2] at z
                  cases z.1
                · have := (uqs_mono l (adL C (b, A))).1
                  omega
              · rcases hq' with hq' | hq'
                · exact hq'.2
                · rw [o1] at hq'
                  cases hq'.1.1
            · rw [o4, o1] at hq'
              rcases hq' with hq' | hq'
              · exact Or.inl ⟨fun z => hq'.1 ⟨rfl, z.2⟩, hq'.2⟩
              · exact Or.inr ⟨⟨o2, hq'.1.2⟩, hq'.2⟩
        · have e : rdC 30 (k + 1) (seg (x 37) (m 4) (m 3)) = none := by
            rw [rdC, hL]
            dsimp only
            rw [if_neg c124]
          refine stop (by omega) (fun code hcode => ?_)
          rw [e]
          show code = -1
          rw [hcode, if_neg (fun z => by omega)]
def FinQ (o : Option (List (Int × List Int))) (U : List Int) (code : Int) (m' : Nat → Int) (x' : Nat → List Int) : Prop := match o with
  | none => code = -1
  | some l => (code = if (ntC l (U, false)).2 = true then -2 else 0) ∧ RW (uqs [] l) (x' 38) (x' 39) (x' 41) ∧ vC (uqs [] l) ∧ (uqs [] l).length ≤ 6 ∧ (flt (uqs [] l)).length ≤ 40 ∧ m' 8 = (uqs [] l).length ∧ m' 7 = (flt (uqs [] l)).length ∧ x' 36 = (ntC l (U, false)).1
theorem l105_36 (d : Nat) {Us : List Int} (hN : 53 ≤ N) (hm : w 27 = .inr (8, mF m)) (hs : w 35 = cI 0 Us) (hS : Us.length = 26) : ∀ (r : Nat) (k : Int) (Q : List Int) (lv : xL), Q.length = 26 → k + r = 26 → 0 ≤ k → c1 lv → x_lk lv 0 = some (.ref 30) → x_lk lv 2 = some (.int (iZ k)) → ∃ lv', c1 lv' ∧ (∀ j, j ≠ 2 → x_lk lv' j = x_lk lv j) ∧ ∀ res, Gx q_k105 d 60 (lv', [], hp (uH w 36 (cI 0 (cpl (0) (fun k => gZ Us k) r k Q))) N) res →
    Gx q_k105 d 36 (lv, [], hp (uH w 36 (cI 0 Q)) N) res := by
  intro r
  induction r with
  | zero =>
    intro k Q lv hQ hk h0 hc l0 l1 
    refine ⟨lv, hc, fun _ _ => rfl, fun res hcont => ?_⟩
    refine Gx.run 60 Cs.tt (fun C _ => ?_) hcont
    have b1 : 26 ≤ k := by omega
    simp (disch := first | (refine c1_id ?_; assumption) | (refine c1_st rfl ?_; repeat (first | assumption | refine c1_st rfl ?_)) | omega) [nx_l, nx_r, nx_n, x_st, x_push, x_bin, x_div, x_un, x_dup, x_pop, x_dup2, x_goto, x_ifeq, x_ifne, x_iflt, x_ifge, x_ifgt, x_ifle, x_iceq, x_icne, x_iclt, x_icge, x_icgt, x_icle, x_ifnull, x_ifnonnull, x_ldi, x_lda, x_sti, x_sta, x_iinc, x_gf, x_pf, x_ald, x_ast, x_aln, x_len, x_cl_, x_cv, x_cs, x_rc, x_r0, x_isT, x_oi, x_rv, x_ri, x_ra, Value.category, t105_0, t105_1, t105_2, t105_5, t105_6, t105_7, t105_10, t105_11, t105_12, t105_15, t105_16, t105_19, t105_20, t105_21, t105_22, t105_23, t105_24, t105_27, t105_28, t105_29, t105_32, t105_33, t105_34, t105_35, t105_36, t105_37, t105_39, t105_42, t105_43, t105_46, t105_47, t105_48, t105_51, t105_52, t105_53, t105_54, t105_57, t105_60, t105_61, t105_64, t105_65, t105_68, t105_69, t105_72, t105_73, t105_74, t105_76, t105_79, t105_80, t105_81, t105_82, t105_83, t105_84, t105_87, t105_88, t105_91, t105_94, t105_95, t105_98, t105_99, t105_102, t105_103, t105_106, t105_108, t105_111, t105_112, t105_115, t105_116, t105_117, t105_118, t105_121, t105_122, t105_124, t105_127, t105_128, t105_129, t105_132, t105_134, t105_135, t105_138, t105_139, t105_141, t105_144, t105_145, t105_148, t105_149, t105_152, t105_155, t105_156, t105_159, t105_160, t105_163, t105_164, t105_167, t105_170, t105_171, t105_174, t105_176, t105_179, t105_180, t105_181, t105_182, t105_185, t105_188, t105_190, t105_193, t105_194, lk_s, hp_get, hp_set, uH_at, uH_ne, uH_upd, uH_swap, iZ_add, iZ_sub, iZ_mul, iZ_neg, iZ_lt, iZ_le, iZ_eq, iZ_div, iZ_of, ix_Z, gZ_map, gZ_mapI, gZ_map', le_0, le_s, sZ_map, sZ_len, bZ_0, bZ_inj, bZ_t, bZ_f, nr_i, nr_0, nr_1, nr_b, ft_i, ft_b, ft_0, ft_1, zl_0, zl_1, zl_2, zl_6, zl_26, zl_35, zl_40, zl_124, mF_len, mg_0, mg_1, mg_2, mg_3, mg_4, mg_5, mg_6, mg_7, mg_8, mg_9, mg_10, mg_11, mg_12, mg_13, mg_14, mg_15, mg_16, mg_17, mg_18, mg_19, mg_20, mg_21, mg_22, mg_23, mg_24, mg_25, mg_26, mg_27, mg_28, mg_29, mg_30, mg_31, mg_32, mg_33, mg_34, mg_35, mg_36, mg_37, mg_38, ms_0, ms_1, ms_2, ms_13, ms_14, ms_15, ms_16, ms_21, ms_22, ms_23, ms_24, ms_28, ms_36, ms_37, ms_38, st_at, st_ne, st_st, st_swap, l0, l1, hm, hs, b1, cpl, -List.filter_filter, -List.getElem?_map, -List.getD_eq_getElem?_getD]
  | succ r ih =>
    intro k Q lv hQ hk h0 hc l0 l1 
    obtain ⟨lv', h1, h2, h3⟩ := ih (k + 1) (sZ Q (0 + k) ((fun k => gZ Us k) k)) (((2 : Nat), .int (iZ (k + 1))) :: List.filter (x_keep 2) lv) (by rw [sZ_len]; exact hQ) (by omega) (by omega) (c1_st rfl hc) (by rw [lk_s hc]; exact l0) (by rw [lk_s hc]; rfl) 
    refine ⟨lv', h1, fun j hj => by rw [h2 j hj, lk_s hc, if_neg (Ne.symm hj)], fun res hcont => ?_⟩
    refine Gx.run 60 Cs.tt (fun C _ => ?_) (h3 res hcont)
    have b1 : ¬ 26 ≤ k := by omega
    simp (disch := first | (refine c1_id ?_; assumption) | (refine c1_st rfl ?_; repeat (first | assumption | refine c1_st rfl ?_)) | omega) [nx_l, nx_r, nx_n, x_st, x_push, x_bin, x_div, x_un, x_dup, x_pop, x_dup2, x_goto, x_ifeq, x_ifne, x_iflt, x_ifge, x_ifgt, x_ifle, x_iceq, x_icne, x_iclt, x_icge, x_icgt, x_icle, x_ifnull, x_ifnonnull, x_ldi, x_lda, x_sti, x_sta, x_iinc, x_gf, x_pf, x_ald, x_ast, x_aln, x_len, x_cl_, x_cv, x_cs, x_rc, x_r0, x_isT, x_oi, x_rv, x_ri, x_ra, Value.category, t105_0, t105_1, t105_2, t105_5, t105_6, t105_7, t105_10, t105_11, t105_12, t105_15, t105_16, t105_19, t105_20, t105_21, t105_22, t105_23, t105_24, t105_27, t105_28, t105_29, t105_32, t105_33, t105_34, t105_35, t105_36, t105_37, t105_39, t105_42, t105_43, t105_46, t105_47, t105_48, t105_51, t105_52, t105_53, t105_54, t105_57, t105_60, t105_61, t105_64, t105_65, t105_68, t105_69, t105_72, t105_73, t105_74, t105_76, t105_79, t105_80, t105_81, t105_82, t105_83, t105_84, t105_87, t105_88, t105_91, t105_94, t105_95, t105_98, t105_99, t105_102, t105_103, t105_106, t105_108, t105_111, t105_112, t105_115, t105_116, t105_117, t105_118, t105_121, t105_122, t105_124, t105_127, t105_128, t105_129, t105_132, t105_134, t105_135, t105_138, t105_139, t105_141, t105_144, t105_145, t105_148, t105_149, t105_152, t105_155, t105_156, t105_159, t105_160, t105_163, t105_164, t105_167, t105_170, t105_171, t105_174, t105_176, t105_179, t105_180, t105_181, t105_182, t105_185, t105_188, t105_190, t105_193, t105_194, lk_s, hp_get, hp_set, uH_at, uH_ne, uH_upd, uH_swap, iZ_add, iZ_sub, iZ_mul, iZ_neg, iZ_lt, iZ_le, iZ_eq, iZ_div, iZ_of, ix_Z, gZ_map, gZ_mapI, gZ_map', le_0, le_s, sZ_map, sZ_len, bZ_0, bZ_inj, bZ_t, bZ_f, nr_i, nr_0, nr_1, nr_b, ft_i, ft_b, ft_0, ft_1, zl_0, zl_1, zl_2, zl_6, zl_26, zl_35, zl_40, zl_124, mF_len, mg_0, mg_1, mg_2, mg_3, mg_4, mg_5, mg_6, mg_7, mg_8, mg_9, mg_10, mg_11, mg_12, mg_13, mg_14, mg_15, mg_16, mg_17, mg_18, mg_19, mg_20, mg_21, mg_22, mg_23, mg_24, mg_25, mg_26, mg_27, mg_28, mg_29, mg_30, mg_31, mg_32, mg_33, mg_34, mg_35, mg_36, mg_37, mg_38, ms_0, ms_1, ms_2, ms_13, ms_14, ms_15, ms_16, ms_21, ms_22, ms_23, ms_24, ms_28, ms_36, ms_37, ms_38, st_at, st_ne, st_st, st_swap, l0, l1, hm, hs, b1, -List.filter_filter, -List.getElem?_map, -List.getD_eq_getElem?_getD]

theorem m105 (d : Nat) (hN : 53 ≤ N) (h : RO w m x) (hI : RI x) (hU : UOK (x 35)) (hd : ∀ i, 0 ≤ i → i < m 3 → 0 ≤ gZ (x 37) i ∧ gZ (x 37) i < 128) (h30 : 0 ≤ m 3) (h3 : m 3 ≤ 60) :
    ∃ (w' : Nat → xC) (m' : Nat → Int) (x' : Nat → List Int) (code : Int), RO w' m' x' ∧ RI x' ∧ Fr ksL2 w w' ∧ (∀ j, ¬ j ∈ ksL → x' j = x j) ∧ mL m m' ∧ UOK (x' 36) ∧ FinQ (rdQ (seg (x 37) 0 (m 3))) (x 35) code m' x' ∧ Xc (d + 5) 105 [.ref 30] (hp w N) (some (.int (iZ code)), hp w' N) := by
  have r_ : ∀ j, 28 ≤ j → j ≤ 51 → w j = cI (kdR j) (x j) ∧ (x j).length = lnR j := h.2
  have hm := h.1
  have h39 : w 39 = cI 0 (x 39) := (r_ 39 (by decide) (by decide)).1
  have n39 : (x 39).length = 14 := (r_ 39 (by decide) (by decide)).2
  have n37 : (x 37).length = 60 := (r_ 37 (by decide) (by decide)).2
  have eS : sZ (x 39) 0 0 = x 39 := sZ_same hI.2.2.2 (by omega) (by omega)
  have hc : c1 (lv_args 0 [.ref 30]) := by simp [c1, lv_args, Value.category]
  have l0 : x_lk (lv_args 0 [.ref 30]) 0 = some (.ref 30) := rfl
  obtain ⟨m1, hm1⟩ : ∃ m1, m1 = st_ (st_ (st_ (st_ (st_ m 4 0) 5 0) 6 0) 7 0) 8 0 := ⟨_, rfl⟩
  obtain ⟨w1, hw1⟩ : ∃ w1, w1 = uH w 27 (.inr (8, mF m1)) := ⟨_, rfl⟩
  have R1 : RO w1 m1 x := by rw [hw1]; exact h.fld m1
  have y3 : m1 3 = m 3 := by rw [hm1, st_ne (by decide), st_ne (by decide), st_ne (by decide), st_ne (by decide), st_ne (by decide)]
  have y4 : m1 4 = 0 := by rw [hm1, st_ne (by decide), st_ne (by decide), st_ne (by decide), st_ne (by decide), st_at]
  have y5 : m1 5 = 0 := by rw [hm1, st_ne (by decide), st_ne (by decide), st_ne (by decide), st_at]
  have y6 : m1 6 = 0 := by rw [hm1, st_ne (by decide), st_ne (by decide), st_at]
  have y7 : m1 7 = 0 := by rw [hm1, st_ne (by decide), st_at]
  have y8 : m1 8 = 0 := by rw [hm1, st_at]
  have ML : mL m m1 := fun i i4 i5 i6 i7 i8 => by rw [hm1, st_ne i8, st_ne i7, st_ne i6, st_ne i5, st_ne i4]
  have C1 := c1_st (i := 1) (v := .int (iZ 0)) rfl hc
  have C2 := c1_st (i := 2) (v := .int (iZ 0)) rfl C1
  have h36 : w1 36 = cI 0 (x 36) := (R1.2 36 (by decide) (by decide)).1
  have n36 : (x 36).length = 26 := (R1.2 36 (by decide) (by decide)).2
  obtain ⟨lvA, hA, sA, gA⟩ := l105_36 (w := w1) (m := m1) (Us := x 35) (d + 4) hN R1.1 (R1.2 35 (by decide) (by decide)).1 hU.1 26 0 (x 36) _ n36 (by omega) (by omega) C2 (by rw [lk_s C1, lk_s hc]; exact l0) (by rw [lk_s C1]; rfl)
  rw [uH_self h36] at gA
  have eU : cpl 0 (fun k => gZ (x 35) k) 26 0 (x 36) = x 35 := by
    refine getD_ext (by rw [cpl_len, n36, hU.1]) (fun i hi => ?_)
    rw [cpl_len, n36] at hi
    have := cpl_at (D := 0) (g := fun k => gZ (x 35) k) (r := 26) (k := 0) (Q := x 36) (j := (i : Int)) (by omega) (by omega) (by omega)
    rw [if_pos (by omega), Int.sub_zero] at this
    exact this
  rw [eU] at gA
  obtain ⟨w2, hw2⟩ : ∃ w2, w2 = uH w1 36 (cI 0 (x 35)) := ⟨_, rfl⟩
  have R2 : RO w2 m1 (ux x 36 (x 35)) := by rw [hw2]; exact R1.set (j := 36) (by decide) hU.1
  rw [← hw2] at gA
  have I2 : RI (ux x 36 (x 35)) := ⟨hI.1, hI.2⟩
  have F2 : Fr ksL2 w w2 := by
    rw [hw2, hw1]
    exact ((Fr.rf _ _).up (by decide)).up (by decide)
  have X2 : ∀ j, ¬ j ∈ ksL → ux x 36 (x 35) j = x j := fun j hj => ux_ne (fun z => hj (by rw [z]; decide))
  have a0 : x_lk lvA 0 = some (.ref 30) := by rw [sA 0 (by decide), lk_s C1, lk_s hc]; exact l0
  have a1 : x_lk lvA 1 = some (.int (iZ 0)) := by rw [sA 1 (by decide), lk_s C1, lk_s hc]; rfl
  have hm2 := R2.1
  have h37 : w2 37 = cI 2 (x 37) := (R2.2 37 (by decide) (by decide)).1
  have g0 : ∀ res, Gx q_k105 (d + 4) 60 (lvA, [], hp w2 N) res → Gx q_k105 (d + 4) 0 (lv_args 0 [.ref 30], [], hp w N) res := fun res hg => by
    have e39 : uH w 39 (cI 0 (x 39)) = w := uH_self h39
    have e39' : uH w1 39 (cI 0 (x 39)) = w1 := uH_self (by rw [hw1, uH_ne (by decide)]; exact h39)
    rw [hw1, hm1] at e39'
    refine Gx.run 60 Cs.tt (fun K _ => ?_) (gA res hg)
    rw [hw1, hm1]
    generalize lv_args 0 [.ref 30] = lv0 at hc l0
    simp (disch := first | (refine c1_id ?_; assumption) | (refine c1_st rfl ?_; repeat (first | assumption | refine c1_st rfl ?_)) | omega) [nx_l, nx_r, nx_n, x_st, x_push, x_bin, x_div, x_un, x_dup, x_pop, x_dup2, x_goto, x_ifeq, x_ifne, x_iflt, x_ifge, x_ifgt, x_ifle, x_iceq, x_icne, x_iclt, x_icge, x_icgt, x_icle, x_ifnull, x_ifnonnull, x_ldi, x_lda, x_sti, x_sta, x_iinc, x_gf, x_pf, x_ald, x_ast, x_aln, x_len, x_cl_, x_cv, x_cs, x_rc, x_r0, x_isT, x_oi, x_rv, x_ri, x_ra, Value.category, t105_0, t105_1, t105_2, t105_5, t105_6, t105_7, t105_10, t105_11, t105_12, t105_15, t105_16, t105_19, t105_20, t105_21, t105_22, t105_23, t105_24, t105_27, t105_28, t105_29, t105_32, t105_33, t105_34, t105_35, t105_36, t105_37, t105_39, t105_42, t105_43, t105_46, t105_47, t105_48, t105_51, t105_52, t105_53, t105_54, t105_57, t105_60, t105_61, t105_64, t105_65, t105_68, t105_69, t105_72, t105_73, t105_74, t105_76, t105_79, t105_80, t105_81, t105_82, t105_83, t105_84, t105_87, t105_88, t105_91, t105_94, t105_95, t105_98, t105_99, t105_102, t105_103, t105_106, t105_108, t105_111, t105_112, t105_115, t105_116, t105_117, t105_118, t105_121, t105_122, t105_124, t105_127, t105_128, t105_129, t105_132, t105_134, t105_135, t105_138, t105_139, t105_141, t105_144, t105_145, t105_148, t105_149, t105_152, t105_155, t105_156, t105_159, t105_160, t105_163, t105_164, t105_167, t105_170, t105_171, t105_174, t105_176, t105_179, t105_180, t105_181, t105_182, t105_185, t105_188, t105_190, t105_193, t105_194, lk_s, hp_get, hp_set, uH_at, uH_ne, uH_upd, uH_swap, iZ_add, iZ_sub, iZ_mul, iZ_neg, iZ_lt, iZ_le, iZ_eq, iZ_div, iZ_of, ix_Z, gZ_map, gZ_mapI, gZ_map', le_0, le_s, sZ_map, sZ_len, bZ_0, bZ_inj, bZ_t, bZ_f, nr_i, nr_0, nr_1, nr_b, ft_i, ft_b, ft_0, ft_1, zl_0, zl_1, zl_2, zl_6, zl_26, zl_35, zl_40, zl_124, mF_len, mg_0, mg_1, mg_2, mg_3, mg_4, mg_5, mg_6, mg_7, mg_8, mg_9, mg_10, mg_11, mg_12, mg_13, mg_14, mg_15, mg_16, mg_17, mg_18, mg_19, mg_20, mg_21, mg_22, mg_23, mg_24, mg_25, mg_26, mg_27, mg_28, mg_29, mg_30, mg_31, mg_32, mg_33, mg_34, mg_35, mg_36, mg_37, mg_38, ms_0, ms_1, ms_2, ms_13, ms_14, ms_15, ms_16, ms_21, ms_22, ms_23, ms_24, ms_28, ms_36, ms_37, ms_38, st_at, st_ne, st_st, st_swap, l0, hm, h39, eS, e39, e39', -List.filter_filter, -List.getElem?_map, -List.getD_eq_getElem?_getD]
  have le : ∀ (w' : Nat → xC) (m' : Nat → Int) (x' : Nat → List Int), RO w' m' x' → Fr ksL2 w w' → x_le (hp w N) (hp w' N) := fun w' m' x' a f => h.le a (fun j hj => by
    rw [f j (by
      unfold ksL2
      simp only [List.mem_cons, List.not_mem_nil, or_false]
      omega)]
    exact Nat.le_refl _)
  by_cases hsh : m 3 = 1 ∧ gZ (x 37) 0 = 35
  · have eT : seg (x 37) 0 (m 3) = [35] := by
      rw [hsh.1, seg_cons (by omega) (by omega) (by omega), hsh.2, show (0 : Int) + 1 = 1 by omega, seg_nil]
    have eQ : rdQ [35] = some [] := if_pos rfl
    rw [eT, eQ]
    refine ⟨w2, m1, _, 0, R2, I2, F2, X2, ML, by rw [ux_at]; exact hU, ⟨rfl, ⟨fun j hj => absurd hj (Nat.not_lt_zero _), fun k hk => ?_, fun k hk => absurd hk (Nat.not_lt_zero _)⟩, fun y hy => (by cases hy), Nat.zero_le _, Nat.zero_le _, y8, y7, ux_at _ _ _⟩, Xc.of rfl (by simp [lg_sl, Value.category]) (g0 _ (Gx.fin 40 Cs.tt (fun K _ => ?_))) (le w2 m1 _ R2 F2)⟩
    · obtain rfl : k = 0 := Nat.le_zero.mp hk
      exact hI.2.2.2
    · have q1 : m1 3 = 1 := by omega
      have q2 := hsh.2
      simp (disch := first | (refine c1_id ?_; assumption) | (refine c1_st rfl ?_; repeat (first | assumption | refine c1_st rfl ?_)) | omega) [nx_l, nx_r, nx_n, x_st, x_push, x_bin, x_div, x_un, x_dup, x_pop, x_dup2, x_goto, x_ifeq, x_ifne, x_iflt, x_ifge, x_ifgt, x_ifle, x_iceq, x_icne, x_iclt, x_icge, x_icgt, x_icle, x_ifnull, x_ifnonnull, x_ldi, x_lda, x_sti, x_sta, x_iinc, x_gf, x_pf, x_ald, x_ast, x_aln, x_len, x_cl_, x_cv, x_cs, x_rc, x_r0, x_isT, x_oi, x_rv, x_ri, x_ra, Value.category, t105_0, t105_1, t105_2, t105_5, t105_6, t105_7, t105_10, t105_11, t105_12, t105_15, t105_16, t105_19, t105_20, t105_21, t105_22, t105_23, t105_24, t105_27, t105_28, t105_29, t105_32, t105_33, t105_34, t105_35, t105_36, t105_37, t105_39, t105_42, t105_43, t105_46, t105_47, t105_48, t105_51, t105_52, t105_53, t105_54, t105_57, t105_60, t105_61, t105_64, t105_65, t105_68, t105_69, t105_72, t105_73, t105_74, t105_76, t105_79, t105_80, t105_81, t105_82, t105_83, t105_84, t105_87, t105_88, t105_91, t105_94, t105_95, t105_98, t105_99, t105_102, t105_103, t105_106, t105_108, t105_111, t105_112, t105_115, t105_116, t105_117, t105_118, t105_121, t105_122, t105_124, t105_127, t105_128, t105_129, t105_132, t105_134, t105_135, t105_138, t105_139, t105_141, t105_144, t105_145, t105_148, t105_149, t105_152, t105_155, t105_156, t105_159, t105_160, t105_163, t105_164, t105_167, t105_170, t105_171, t105_174, t105_176, t105_179, t105_180, t105_181, t105_182, t105_185, t105_188, t105_190, t105_193, t105_194, lk_s, hp_get, hp_set, uH_at, uH_ne, uH_upd, uH_swap, iZ_add, iZ_sub, iZ_mul, iZ_neg, iZ_lt, iZ_le, iZ_eq, iZ_div, iZ_of, ix_Z, gZ_map, gZ_mapI, gZ_map', le_0, le_s, sZ_map, sZ_len, bZ_0, bZ_inj, bZ_t, bZ_f, nr_i, nr_0, nr_1, nr_b, ft_i, ft_b, ft_0, ft_1, zl_0, zl_1, zl_2, zl_6, zl_26, zl_35, zl_40, zl_124, mF_len, mg_0, mg_1, mg_2, mg_3, mg_4, mg_5, mg_6, mg_7, mg_8, mg_9, mg_10, mg_11, mg_12, mg_13, mg_14, mg_15, mg_16, mg_17, mg_18, mg_19, mg_20, mg_21, mg_22, mg_23, mg_24, mg_25, mg_26, mg_27, mg_28, mg_29, mg_30, mg_31, mg_32, mg_33, mg_34, mg_35, mg_36, mg_37, mg_38, ms_0, ms_1, ms_2, ms_13, ms_14, ms_15, ms_16, ms_21, ms_22, ms_23, ms_24, ms_28, ms_36, ms_37, ms_38, st_at, st_ne, st_st, st_swap, a0, hm2, h37, q1, q2, -List.filter_filter, -List.getElem?_map, -List.getD_eq_getElem?_getD]
  · have eT : ¬ seg (x 37) 0 (m 3) = [35] := fun z => by
      obtain ⟨s1, s2, s3⟩ := sg_c (by omega) (by omega) z
      have := sg_e (by omega) (by omega) (by omega) s3
      refine hsh ⟨by omega, ?_⟩
      unfold heZ at s2
      rw [if_pos s1] at s2
      exact s2
    have A2 := c1_st (i := 2) (v := .int (iZ 1)) rfl hA
    have hl2 := seg_le (D := x 37) (a := 0) (b := m 3)
    have E := L105 d hN 61 w2 m1 (ux x 36 (x 35)) [] false false _ R2 I2 ⟨fun j hj => absurd hj (Nat.not_lt_zero _), fun k hk => by
      obtain rfl : k = 0 := Nat.le_zero.mp hk
      exact hI.2.2.2, fun k hk => absurd hk (Nat.not_lt_zero _)⟩ (fun y hy => (by cases hy)) (Nat.zero_le _) (fun z => (by cases z)) y8 y7 (by omega) (by rw [ux_at]; exact hU) y6 y5 (by
      show ∀ i, 0 ≤ i → i < m1 3 → 0 ≤ gZ (x 37) i ∧ gZ (x 37) i < 128
      rw [y3]
      exact hd) (by omega) (by omega) (by omega) (by
      show (seg (x 37) (m1 4) (m1 3)).length < 61
      rw [y4, y3]
      omega) ⟨A2, by rw [lk_s hA]; exact a0, by rw [lk_s hA]; exact a1, by rw [lk_s hA]; rfl⟩
    obtain ⟨w', m', x', code, b1, b2, b3, b4, b5, b6, b7, b8⟩ := E
    have b7' : FinC (rdC 30 61 (seg (x 37) (m1 4) (m1 3))) [] false (x 35, false) code m' x' := by
      have := b7
      rw [ux_at] at this
      exact this
    rw [y4, y3] at b7'
    refine ⟨w', m', x', code, b1, b2, F2.tr b3, fun j hj => (b4 j hj).trans (X2 j hj), ML.tr b5, b6, ?_, Xc.of rfl (by simp [lg_sl, Value.category]) (g0 _ (Gx.run 40 Cs.tt (fun K _ => ?_) b8)) (le w' m' x' b1 (F2.tr b3))⟩
    · have eQ : rdQ (seg (x 37) 0 (m 3)) = match rdC 30 61 (seg (x 37) 0 (m 3)) with
        | none => none
        | some l => if (uqs [] l).length ≤ 6 ∧ (flt (uqs [] l)).length ≤ 40 then some l else none := if_neg eT
      rw [eQ]
      cases hR : rdC 30 61 (seg (x 37) 0 (m 3)) with
      | none =>
        rw [hR] at b7'
        exact b7'
      | some l =>
        rw [hR] at b7'
        dsimp only
        rcases b7' with z | ⟨z1, z2, z3, z4, z5, z6, z7⟩
        · rw [if_neg (fun q => z.1 ⟨rfl, q⟩)]
          exact z.2
        · rw [if_pos z1.2]
          exact ⟨z2, z3, z4, z1.2.1, z1.2.2, z5, z6, z7⟩
    · by_cases q1 : m1 3 = 1
      · have q2 : ¬ gZ (x 37) 0 = 35 := fun z => hsh ⟨by omega, z⟩
        have q3 := hd 0 (by omega) (by omega)
        have q4 := q3.1
        have q5 := q3.2
        simp (disch := first | (refine c1_id ?_; assumption) | (refine c1_st rfl ?_; repeat (first | assumption | refine c1_st rfl ?_)) | omega) [nx_l, nx_r, nx_n, x_st, x_push, x_bin, x_div, x_un, x_dup, x_pop, x_dup2, x_goto, x_ifeq, x_ifne, x_iflt, x_ifge, x_ifgt, x_ifle, x_iceq, x_icne, x_iclt, x_icge, x_icgt, x_icle, x_ifnull, x_ifnonnull, x_ldi, x_lda, x_sti, x_sta, x_iinc, x_gf, x_pf, x_ald, x_ast, x_aln, x_len, x_cl_, x_cv, x_cs, x_rc, x_r0, x_isT, x_oi, x_rv, x_ri, x_ra, Value.category, t105_0, t105_1, t105_2, t105_5, t105_6, t105_7, t105_10, t105_11, t105_12, t105_15, t105_16, t105_19, t105_20, t105_21, t105_22, t105_23, t105_24, t105_27, t105_28, t105_29, t105_32, t105_33, t105_34, t105_35, t105_36, t105_37, t105_39, t105_42, t105_43, t105_46, t105_47, t105_48, t105_51, t105_52, t105_53, t105_54, t105_57, t105_60, t105_61, t105_64, t105_65, t105_68, t105_69, t105_72, t105_73, t105_74, t105_76, t105_79, t105_80, t105_81, t105_82, t105_83, t105_84, t105_87, t105_88, t105_91, t105_94, t105_95, t105_98, t105_99, t105_102, t105_103, t105_106, t105_108, t105_111, t105_112, t105_115, t105_116, t105_117, t105_118, t105_121, t105_122, t105_124, t105_127, t105_128, t105_129, t105_132, t105_134, t105_135, t105_138, t105_139, t105_141, t105_144, t105_145, t105_148, t105_149, t105_152, t105_155, t105_156, t105_159, t105_160, t105_163, t105_164, t105_167, t105_170, t105_171, t105_174, t105_176, t105_179, t105_180, t105_181, t105_182, t105_185, t105_188, t105_190, t105_193, t105_194, lk_s, hp_get, hp_set, uH_at, uH_ne, uH_upd, uH_swap, iZ_add, iZ_sub, iZ_mul, iZ_neg, iZ_lt, iZ_le, iZ_eq, iZ_div, iZ_of, ix_Z, gZ_map, gZ_mapI, gZ_map', le_0, le_s, sZ_map, sZ_len, bZ_0, bZ_inj, bZ_t, bZ_f, nr_i, nr_0, nr_1, nr_b, ft_i, ft_b, ft_0, ft_1, zl_0, zl_1, zl_2, zl_6, zl_26, zl_35, zl_40, zl_124, mF_len, mg_0, mg_1, mg_2, mg_3, mg_4, mg_5, mg_6, mg_7, mg_8, mg_9, mg_10, mg_11, mg_12, mg_13, mg_14, mg_15, mg_16, mg_17, mg_18, mg_19, mg_20, mg_21, mg_22, mg_23, mg_24, mg_25, mg_26, mg_27, mg_28, mg_29, mg_30, mg_31, mg_32, mg_33, mg_34, mg_35, mg_36, mg_37, mg_38, ms_0, ms_1, ms_2, ms_13, ms_14, ms_15, ms_16, ms_21, ms_22, ms_23, ms_24, ms_28, ms_36, ms_37, ms_38, st_at, st_ne, st_st, st_swap, a0, hm2, h37, q1, q2, -List.filter_filter, -List.getElem?_map, -List.getD_eq_getElem?_getD]
      · simp (disch := first | (refine c1_id ?_; assumption) | (refine c1_st rfl ?_; repeat (first | assumption | refine c1_st rfl ?_)) | omega) [nx_l, nx_r, nx_n, x_st, x_push, x_bin, x_div, x_un, x_dup, x_pop, x_dup2, x_goto, x_ifeq, x_ifne, x_iflt, x_ifge, x_ifgt, x_ifle, x_iceq, x_icne, x_iclt, x_icge, x_icgt, x_icle, x_ifnull, x_ifnonnull, x_ldi, x_lda, x_sti, x_sta, x_iinc, x_gf, x_pf, x_ald, x_ast, x_aln, x_len, x_cl_, x_cv, x_cs, x_rc, x_r0, x_isT, x_oi, x_rv, x_ri, x_ra, Value.category, t105_0, t105_1, t105_2, t105_5, t105_6, t105_7, t105_10, t105_11, t105_12, t105_15, t105_16, t105_19, t105_20, t105_21, t105_22, t105_23, t105_24, t105_27, t105_28, t105_29, t105_32, t105_33, t105_34, t105_35, t105_36, t105_37, t105_39, t105_42, t105_43, t105_46, t105_47, t105_48, t105_51, t105_52, t105_53, t105_54, t105_57, t105_60, t105_61, t105_64, t105_65, t105_68, t105_69, t105_72, t105_73, t105_74, t105_76, t105_79, t105_80, t105_81, t105_82, t105_83, t105_84, t105_87, t105_88, t105_91, t105_94, t105_95, t105_98, t105_99, t105_102, t105_103, t105_106, t105_108, t105_111, t105_112, t105_115, t105_116, t105_117, t105_118, t105_121, t105_122, t105_124, t105_127, t105_128, t105_129, t105_132, t105_134, t105_135, t105_138, t105_139, t105_141, t105_144, t105_145, t105_148, t105_149, t105_152, t105_155, t105_156, t105_159, t105_160, t105_163, t105_164, t105_167, t105_170, t105_171, t105_174, t105_176, t105_179, t105_180, t105_181, t105_182, t105_185, t105_188, t105_190, t105_193, t105_194, lk_s, hp_get, hp_set, uH_at, uH_ne, uH_upd, uH_swap, iZ_add, iZ_sub, iZ_mul, iZ_neg, iZ_lt, iZ_le, iZ_eq, iZ_div, iZ_of, ix_Z, gZ_map, gZ_mapI, gZ_map', le_0, le_s, sZ_map, sZ_len, bZ_0, bZ_inj, bZ_t, bZ_f, nr_i, nr_0, nr_1, nr_b, ft_i, ft_b, ft_0, ft_1, zl_0, zl_1, zl_2, zl_6, zl_26, zl_35, zl_40, zl_124, mF_len, mg_0, mg_1, mg_2, mg_3, mg_4, mg_5, mg_6, mg_7, mg_8, mg_9, mg_10, mg_11, mg_12, mg_13, mg_14, mg_15, mg_16, mg_17, mg_18, mg_19, mg_20, mg_21, mg_22, mg_23, mg_24, mg_25, mg_26, mg_27, mg_28, mg_29, mg_30, mg_31, mg_32, mg_33, mg_34, mg_35, mg_36, mg_37, mg_38, ms_0, ms_1, ms_2, ms_13, ms_14, ms_15, ms_16, ms_21, ms_22, ms_23, ms_24, ms_28, ms_36, ms_37, ms_38, st_at, st_ne, st_st, st_swap, a0, hm2, h37, q1, -List.filter_filter, -List.getElem?_map, -List.getD_eq_getElem?_getD]
end RF
