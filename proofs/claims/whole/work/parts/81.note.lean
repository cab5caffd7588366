/-! the reference: a term is read (the method); the uses of letters are noted -/
theorem f102_0 : x_fetch q_k102 0 = x_ldi 1 1 := rfl
theorem t102_0 (C : xF) (s n : Nat) (z : xS) : x_to q_k102 C s (n + 1) 0 z = x_nx q_k102 C s n ((x_ldi 1 1) C z) := x_to_at f102_0 C s n z
theorem f102_1 : x_fetch q_k102 1 = x_sti 3 4 := rfl
theorem t102_1 (C : xF) (s n : Nat) (z : xS) : x_to q_k102 C s (n + 1) 1 z = x_nx q_k102 C s n ((x_sti 3 4) C z) := x_to_at f102_1 C s n z
theorem f102_3 : x_fetch q_k102 3 = x_ldi 5 4 := rfl
theorem t102_3 (C : xF) (s n : Nat) (z : xS) : x_to q_k102 C s (n + 1) 3 z = x_nx q_k102 C s n ((x_ldi 5 4) C z) := x_to_at f102_3 C s n z
theorem f102_5 : x_fetch q_k102 5 = x_ldi 6 2 := rfl
theorem t102_5 (C : xF) (s n : Nat) (z : xS) : x_to q_k102 C s (n + 1) 5 z = x_nx q_k102 C s n ((x_ldi 6 2) C z) := x_to_at f102_5 C s n z
theorem f102_6 : x_fetch q_k102 6 = x_st (x_icge 69 9) := rfl
theorem t102_6 (C : xF) (s n : Nat) (z : xS) : x_to q_k102 C s (n + 1) 6 z = x_nx q_k102 C s n ((x_st (x_icge 69 9)) C z) := x_to_at f102_6 C s n z
theorem f102_9 : x_fetch q_k102 9 = x_lda 10 0 := rfl
theorem t102_9 (C : xF) (s n : Nat) (z : xS) : x_to q_k102 C s (n + 1) 9 z = x_nx q_k102 C s n ((x_lda 10 0) C z) := x_to_at f102_9 C s n z
theorem f102_10 : x_fetch q_k102 10 = x_gf 13 8 17 := rfl
theorem t102_10 (C : xF) (s n : Nat) (z : xS) : x_to q_k102 C s (n + 1) 10 z = x_nx q_k102 C s n ((x_gf 13 8 17) C z) := x_to_at f102_10 C s n z
theorem f102_13 : x_fetch q_k102 13 = x_ldi 15 4 := rfl
theorem t102_13 (C : xF) (s n : Nat) (z : xS) : x_to q_k102 C s (n + 1) 13 z = x_nx q_k102 C s n ((x_ldi 15 4) C z) := x_to_at f102_13 C s n z
theorem f102_15 : x_fetch q_k102 15 = x_ald 16 0 := rfl
theorem t102_15 (C : xF) (s n : Nat) (z : xS) : x_to q_k102 C s (n + 1) 15 z = x_nx q_k102 C s n ((x_ald 16 0) C z) := x_to_at f102_15 C s n z
theorem f102_16 : x_fetch q_k102 16 = x_st (x_push 18 (.int (100))) := rfl
theorem t102_16 (C : xF) (s n : Nat) (z : xS) : x_to q_k102 C s (n + 1) 16 z = x_nx q_k102 C s n ((x_st (x_push 18 (.int (100)))) C z) := x_to_at f102_16 C s n z
theorem f102_18 : x_fetch q_k102 18 = x_st (x_iclt 63 21) := rfl
theorem t102_18 (C : xF) (s n : Nat) (z : xS) : x_to q_k102 C s (n + 1) 18 z = x_nx q_k102 C s n ((x_st (x_iclt 63 21)) C z) := x_to_at f102_18 C s n z
theorem f102_21 : x_fetch q_k102 21 = x_lda 22 0 := rfl
theorem t102_21 (C : xF) (s n : Nat) (z : xS) : x_to q_k102 C s (n + 1) 21 z = x_nx q_k102 C s n ((x_lda 22 0) C z) := x_to_at f102_21 C s n z
theorem f102_22 : x_fetch q_k102 22 = x_lda 23 0 := rfl
theorem t102_22 (C : xF) (s n : Nat) (z : xS) : x_to q_k102 C s (n + 1) 22 z = x_nx q_k102 C s n ((x_lda 23 0) C z) := x_to_at f102_22 C s n z
theorem f102_23 : x_fetch q_k102 23 = x_gf 26 8 17 := rfl
theorem t102_23 (C : xF) (s n : Nat) (z : xS) : x_to q_k102 C s (n + 1) 23 z = x_nx q_k102 C s n ((x_gf 26 8 17) C z) := x_to_at f102_23 C s n z
theorem f102_26 : x_fetch q_k102 26 = x_ldi 28 4 := rfl
theorem t102_26 (C : xF) (s n : Nat) (z : xS) : x_to q_k102 C s (n + 1) 26 z = x_nx q_k102 C s n ((x_ldi 28 4) C z) := x_to_at f102_26 C s n z
theorem f102_28 : x_fetch q_k102 28 = x_ald 29 0 := rfl
theorem t102_28 (C : xF) (s n : Nat) (z : xS) : x_to q_k102 C s (n + 1) 28 z = x_nx q_k102 C s n ((x_ald 29 0) C z) := x_to_at f102_28 C s n z
theorem f102_29 : x_fetch q_k102 29 = x_st (x_push 31 (.int (100))) := rfl
theorem t102_29 (C : xF) (s n : Nat) (z : xS) : x_to q_k102 C s (n + 1) 29 z = x_nx q_k102 C s n ((x_st (x_push 31 (.int (100)))) C z) := x_to_at f102_29 C s n z
theorem f102_31 : x_fetch q_k102 31 = x_st (x_bin 32 (fun a b => a - b)) := rfl
theorem t102_31 (C : xF) (s n : Nat) (z : xS) : x_to q_k102 C s (n + 1) 31 z = x_nx q_k102 C s n ((x_st (x_bin 32 (fun a b => a - b))) C z) := x_to_at f102_31 C s n z
theorem f102_32 : x_fetch q_k102 32 = x_st (x_push 33 (.int (4))) := rfl
theorem t102_32 (C : xF) (s n : Nat) (z : xS) : x_to q_k102 C s (n + 1) 32 z = x_nx q_k102 C s n ((x_st (x_push 33 (.int (4)))) C z) := x_to_at f102_32 C s n z
theorem f102_33 : x_fetch q_k102 33 = x_st (x_div 34 (fun a b => a / b)) := rfl
theorem t102_33 (C : xF) (s n : Nat) (z : xS) : x_to q_k102 C s (n + 1) 33 z = x_nx q_k102 C s n ((x_st (x_div 34 (fun a b => a / b))) C z) := x_to_at f102_33 C s n z
theorem f102_34 : x_fetch q_k102 34 = x_lda 35 0 := rfl
theorem t102_34 (C : xF) (s n : Nat) (z : xS) : x_to q_k102 C s (n + 1) 34 z = x_nx q_k102 C s n ((x_lda 35 0) C z) := x_to_at f102_34 C s n z
theorem f102_35 : x_fetch q_k102 35 = x_gf 38 8 17 := rfl
theorem t102_35 (C : xF) (s n : Nat) (z : xS) : x_to q_k102 C s (n + 1) 35 z = x_nx q_k102 C s n ((x_gf 38 8 17) C z) := x_to_at f102_35 C s n z
theorem f102_38 : x_fetch q_k102 38 = x_ldi 40 4 := rfl
theorem t102_38 (C : xF) (s n : Nat) (z : xS) : x_to q_k102 C s (n + 1) 38 z = x_nx q_k102 C s n ((x_ldi 40 4) C z) := x_to_at f102_38 C s n z
theorem f102_40 : x_fetch q_k102 40 = x_ald 41 0 := rfl
theorem t102_40 (C : xF) (s n : Nat) (z : xS) : x_to q_k102 C s (n + 1) 40 z = x_nx q_k102 C s n ((x_ald 41 0) C z) := x_to_at f102_40 C s n z
theorem f102_41 : x_fetch q_k102 41 = x_cl_ 44 101 1 := rfl
theorem t102_41 (C : xF) (s n : Nat) (z : xS) : x_to q_k102 C s (n + 1) 41 z = x_nx q_k102 C s n ((x_cl_ 44 101 1) C z) := x_to_at f102_41 C s n z
theorem f102_44 : x_fetch q_k102 44 = x_ldi 46 4 := rfl
theorem t102_44 (C : xF) (s n : Nat) (z : xS) : x_to q_k102 C s (n + 1) 44 z = x_nx q_k102 C s n ((x_ldi 46 4) C z) := x_to_at f102_44 C s n z
theorem f102_46 : x_fetch q_k102 46 = x_ldi 47 1 := rfl
theorem t102_46 (C : xF) (s n : Nat) (z : xS) : x_to q_k102 C s (n + 1) 46 z = x_nx q_k102 C s n ((x_ldi 47 1) C z) := x_to_at f102_46 C s n z
theorem f102_47 : x_fetch q_k102 47 = x_st (x_icne 58 50) := rfl
theorem t102_47 (C : xF) (s n : Nat) (z : xS) : x_to q_k102 C s (n + 1) 47 z = x_nx q_k102 C s n ((x_st (x_icne 58 50)) C z) := x_to_at f102_47 C s n z
theorem f102_50 : x_fetch q_k102 50 = x_ldi 51 3 := rfl
theorem t102_50 (C : xF) (s n : Nat) (z : xS) : x_to q_k102 C s (n + 1) 50 z = x_nx q_k102 C s n ((x_ldi 51 3) C z) := x_to_at f102_50 C s n z
theorem f102_51 : x_fetch q_k102 51 = x_st (x_ifeq 58 54) := rfl
theorem t102_51 (C : xF) (s n : Nat) (z : xS) : x_to q_k102 C s (n + 1) 51 z = x_nx q_k102 C s n ((x_st (x_ifeq 58 54)) C z) := x_to_at f102_51 C s n z
theorem f102_54 : x_fetch q_k102 54 = x_st (x_push 55 (.int (5))) := rfl
theorem t102_54 (C : xF) (s n : Nat) (z : xS) : x_to q_k102 C s (n + 1) 54 z = x_nx q_k102 C s n ((x_st (x_push 55 (.int (5)))) C z) := x_to_at f102_54 C s n z
theorem f102_55 : x_fetch q_k102 55 = x_st (x_goto 59) := rfl
theorem t102_55 (C : xF) (s n : Nat) (z : xS) : x_to q_k102 C s (n + 1) 55 z = x_nx q_k102 C s n ((x_st (x_goto 59)) C z) := x_to_at f102_55 C s n z
theorem f102_58 : x_fetch q_k102 58 = x_st (x_push 59 (.int (1))) := rfl
theorem t102_58 (C : xF) (s n : Nat) (z : xS) : x_to q_k102 C s (n + 1) 58 z = x_nx q_k102 C s n ((x_st (x_push 59 (.int (1)))) C z) := x_to_at f102_58 C s n z
theorem f102_59 : x_fetch q_k102 59 = x_st (x_bin 60 (fun a b => a + b)) := rfl
theorem t102_59 (C : xF) (s n : Nat) (z : xS) : x_to q_k102 C s (n + 1) 59 z = x_nx q_k102 C s n ((x_st (x_bin 60 (fun a b => a + b))) C z) := x_to_at f102_59 C s n z
theorem f102_60 : x_fetch q_k102 60 = x_cv 63 99 3 8 := rfl
theorem t102_60 (C : xF) (s n : Nat) (z : xS) : x_to q_k102 C s (n + 1) 60 z = x_nx q_k102 C s n ((x_cv 63 99 3 8) C z) := x_to_at f102_60 C s n z
theorem f102_63 : x_fetch q_k102 63 = x_iinc 66 4 (1) := rfl
theorem t102_63 (C : xF) (s n : Nat) (z : xS) : x_to q_k102 C s (n + 1) 63 z = x_nx q_k102 C s n ((x_iinc 66 4 (1)) C z) := x_to_at f102_63 C s n z
theorem f102_66 : x_fetch q_k102 66 = x_st (x_goto 3) := rfl
theorem t102_66 (C : xF) (s n : Nat) (z : xS) : x_to q_k102 C s (n + 1) 66 z = x_nx q_k102 C s n ((x_st (x_goto 3)) C z) := x_to_at f102_66 C s n z
theorem f102_69 : x_fetch q_k102 69 = x_rv := rfl
theorem t102_69 (C : xF) (s n : Nat) (z : xS) : x_to q_k102 C s (n + 1) 69 z = x_nx q_k102 C s n ((x_rv) C z) := x_to_at f102_69 C s n z
section NT
variable {w : Nat → xC} {N : Nat} {m : Nat → Int} {D R St : List Int} {lv : xL}
theorem TR.le {w' : Nat → xC} {m' : Nat → Int} {R' St' : List Int} (h : TR w m D R St) (g : TR w' m' D R' St') (f : Fr ksR w w') (j : Nat) : x_c1 (w j) ≤ x_c1 (w' j) := by
  by_cases hj : j ∈ ksR
  · obtain ⟨t1, t2, t3, t4, t5, t6, t7, t8⟩ := h
    obtain ⟨u1, u2, u3, u4, u5, u6, u7, u8⟩ := g
    unfold ksR at hj
    simp only [List.mem_cons, List.not_mem_nil, or_false] at hj
    rcases hj with rfl | rfl | rfl
    · rw [t1, u1]; simp [x_c1, mF_len]
    · rw [t4, u4]; simp [x_c1, t5, u5]
    · rw [t6, u6]; simp [x_c1, t7, u7]
  · rw [f j hj]
    exact Nat.le_refl _
theorem seg_le {D : List Int} {a b : Int} : (seg D a b).length ≤ b.toNat - a.toNat := by
  unfold seg
  rw [List.length_take]
  omega
theorem m100 (d : Nat) (hN : 53 ≤ N) (h : TR w m D R St) (h5 : m 5 = 0) :
    (∀ t r1, rdT 30 (seg D (m 4) (m 3)) = some (t, r1) → ∃ (w' : Nat → xC) (m' : Nat → Int) (R' St' : List Int), TR w' m' D R' St' ∧ Fr ksR w w' ∧ mT m m' ∧ m' 5 = 0 ∧ seg D (m' 4) (m' 3) = r1 ∧ m 4 ≤ m' 4 ∧ m' 7 = m 7 + t.length ∧ (∀ j, 0 ≤ j → j < m 7 → gZ R' j = gZ R j) ∧ (∀ j : Nat, j < t.length → gZ R' (m 7 + j) = t.getD j 0) ∧ Xc (d + 3) 100 [.ref 30] (hp w N) (none, hp w' N)) ∧
    (rdT 30 (seg D (m 4) (m 3)) = none → ∃ (w' : Nat → xC) (m' : Nat → Int) (R' St' : List Int), TR w' m' D R' St' ∧ Fr ksR w w' ∧ mT m m' ∧ m' 5 = 1 ∧ m 7 ≤ m' 7 ∧ (∀ j, 0 ≤ j → j < m 7 → gZ R' j = gZ R j) ∧ (∀ j, m 7 ≤ j → j < m' 7 → sgR (gZ R' j)) ∧ Xc (d + 3) 100 [.ref 30] (hp w N) (none, hp w' N)) := by
  have hc : c1 (lv_args 0 [.ref 30]) := by simp [c1, lv_args, Value.category]
  have l0 : x_lk (lv_args 0 [.ref 30]) 0 = some (.ref 30) := rfl
  have C1 := c1_st (i := 1) (v := .int (iZ 0)) rfl hc
  have C2 := c1_st (i := 2) (v := .int (iZ 1)) rfl C1
  have hl : lT ((2, .int (iZ 1)) :: List.filter (x_keep 2) ((1, .int (iZ 0)) :: List.filter (x_keep 1) (lv_args 0 [.ref 30]))) 0 1 := ⟨C2, by rw [lk_s C1, lk_s hc]; rfl, by rw [lk_s C1, lk_s hc]; rfl, by rw [lk_s C1]; rfl⟩
  have m4 := h.2.2.2.2.2.2.2.1
  have m3 := h.2.2.2.2.2.2.2.2.2.1
  have H := T100 (D := D) d hN 30 _ w m R St 0 _ h h5 rfl (by omega) m4 hl
  have g0 : ∀ res, Gx q_k100 (d + 2) 4 ((2, .int (iZ 1)) :: List.filter (x_keep 2) ((1, .int (iZ 0)) :: List.filter (x_keep 1) (lv_args 0 [.ref 30])), [], hp w N) res → Gx q_k100 (d + 2) 0 (lv_args 0 [.ref 30], [], hp w N) res := fun res hg => by
    generalize lv_args 0 [.ref 30] = lv0 at hc hg
    refine Gx.run 20 Cs.tt (fun C _ => ?_) hg
    simp (disch := first | (refine c1_id ?_; assumption) | (refine c1_st rfl ?_; repeat (first | assumption | refine c1_st rfl ?_)) | omega) [nx_l, nx_r, nx_n, x_st, x_push, x_bin, x_div, x_un, x_dup, x_pop, x_dup2, x_goto, x_ifeq, x_ifne, x_iflt, x_ifge, x_ifgt, x_ifle, x_iceq, x_icne, x_iclt, x_icge, x_icgt, x_icle, x_ifnull, x_ifnonnull, x_ldi, x_lda, x_sti, x_sta, x_iinc, x_gf, x_pf, x_ald, x_ast, x_aln, x_len, x_cl_, x_cv, x_cs, x_rc, x_r0, x_isT, x_oi, x_rv, x_ri, x_ra, Value.category, t100_0, t100_1, t100_2, t100_3, t100_4, t100_5, t100_8, t100_9, t100_12, t100_15, t100_16, t100_19, t100_20, t100_21, t100_23, t100_26, t100_27, t100_29, t100_32, t100_33, t100_34, t100_37, t100_38, t100_39, t100_42, t100_43, t100_44, t100_46, t100_47, t100_50, t100_51, t100_52, t100_55, t100_56, t100_59, t100_62, t100_63, t100_64, t100_67, t100_68, t100_69, t100_72, t100_73, t100_75, t100_76, t100_77, t100_79, t100_80, t100_81, t100_82, t100_85, t100_86, t100_88, t100_91, t100_92, t100_93, t100_96, t100_97, t100_100, t100_101, t100_102, t100_105, t100_106, t100_107, t100_108, t100_111, t100_112, t100_115, t100_116, t100_119, t100_120, t100_121, t100_122, t100_123, t100_124, t100_125, t100_126, t100_129, t100_130, t100_131, t100_134, t100_135, t100_138, t100_139, t100_142, t100_143, t100_146, t100_149, t100_150, t100_152, t100_155, t100_158, t100_159, t100_160, t100_161, t100_164, t100_165, t100_166, t100_167, t100_168, t100_170, t100_171, t100_172, t100_175, t100_177, t100_178, t100_180, t100_181, t100_182, t100_183, t100_184, t100_187, t100_188, t100_191, t100_192, t100_195, t100_196, t100_199, t100_201, t100_202, t100_205, t100_208, t100_209, t100_212, t100_214, t100_215, t100_218, t100_219, t100_222, t100_224, t100_225, t100_226, t100_227, t100_228, t100_231, t100_232, t100_234, t100_237, t100_240, t100_243, t100_246, t100_247, t100_248, t100_251, t100_254, t100_257, lk_s, hp_get, hp_set, uH_at, uH_ne, uH_upd, uH_swap, iZ_add, iZ_sub, iZ_mul, iZ_neg, iZ_lt, iZ_le, iZ_eq, iZ_div, iZ_of, ix_Z, gZ_map, gZ_mapI, gZ_map', le_0, le_s, sZ_map, sZ_len, bZ_0, bZ_inj, bZ_t, bZ_f, nr_i, nr_0, nr_1, nr_b, ft_i, ft_b, ft_0, ft_1, zl_0, zl_1, zl_3, zl_4, zl_40, zl_41, zl_44, zl_65, zl_90, zl_97, zl_100, mF_len, mg_0, mg_1, mg_2, mg_3, mg_4, mg_5, mg_6, mg_7, mg_8, mg_9, mg_10, mg_11, mg_12, mg_13, mg_14, mg_15, mg_16, mg_17, mg_18, mg_19, mg_20, mg_21, mg_22, mg_23, mg_24, mg_25, mg_26, mg_27, mg_28, mg_29, mg_30, mg_31, mg_32, mg_33, mg_34, mg_35, mg_36, mg_37, mg_38, ms_0, ms_1, ms_2, ms_13, ms_14, ms_15, ms_16, ms_21, ms_22, ms_23, ms_24, ms_28, ms_36, ms_37, ms_38, st_at, st_ne, st_st, st_swap, -List.filter_filter, -List.getElem?_map, -List.getD_eq_getElem?_getD]
  refine ⟨fun t r1 e => ?_, fun e => ?_⟩
  · obtain ⟨w', m', R', St', lv', a1, a2, a3, a4, a5, a45, a6, a7, a8, a9, a10, a11⟩ := H.1 t r1 e
    refine ⟨w', m', R', St', a1, a2, a3, a4, a5, a45, a6, a7, a8, Xc.of rfl (by simp [lg_sl, Value.category]) (g0 _ (a11 _ (Gx.fin 20 Cs.tt (fun C _ => ?_)))) (hp_le (Nat.le_refl _) (fun j _ => h.le a1 a2 j))⟩
    obtain ⟨b1, b2, b3, b4⟩ := a10
    simp (disch := first | (refine c1_id ?_; assumption) | (refine c1_st rfl ?_; repeat (first | assumption | refine c1_st rfl ?_)) | omega) [nx_l, nx_r, nx_n, x_st, x_push, x_bin, x_div, x_un, x_dup, x_pop, x_dup2, x_goto, x_ifeq, x_ifne, x_iflt, x_ifge, x_ifgt, x_ifle, x_iceq, x_icne, x_iclt, x_icge, x_icgt, x_icle, x_ifnull, x_ifnonnull, x_ldi, x_lda, x_sti, x_sta, x_iinc, x_gf, x_pf, x_ald, x_ast, x_aln, x_len, x_cl_, x_cv, x_cs, x_rc, x_r0, x_isT, x_oi, x_rv, x_ri, x_ra, Value.category, t100_0, t100_1, t100_2, t100_3, t100_4, t100_5, t100_8, t100_9, t100_12, t100_15, t100_16, t100_19, t100_20, t100_21, t100_23, t100_26, t100_27, t100_29, t100_32, t100_33, t100_34, t100_37, t100_38, t100_39, t100_42, t100_43, t100_44, t100_46, t100_47, t100_50, t100_51, t100_52, t100_55, t100_56, t100_59, t100_62, t100_63, t100_64, t100_67, t100_68, t100_69, t100_72, t100_73, t100_75, t100_76, t100_77, t100_79, t100_80, t100_81, t100_82, t100_85, t100_86, t100_88, t100_91, t100_92, t100_93, t100_96, t100_97, t100_100, t100_101, t100_102, t100_105, t100_106, t100_107, t100_108, t100_111, t100_112, t100_115, t100_116, t100_119, t100_120, t100_121, t100_122, t100_123, t100_124, t100_125, t100_126, t100_129, t100_130, t100_131, t100_134, t100_135, t100_138, t100_139, t100_142, t100_143, t100_146, t100_149, t100_150, t100_152, t100_155, t100_158, t100_159, t100_160, t100_161, t100_164, t100_165, t100_166, t100_167, t100_168, t100_170, t100_171, t100_172, t100_175, t100_177, t100_178, t100_180, t100_181, t100_182, t100_183, t100_184, t100_187, t100_188, t100_191, t100_192, t100_195, t100_196, t100_199, t100_201, t100_202, t100_205, t100_208, t100_209, t100_212, t100_214, t100_215, t100_218, t100_219, t100_222, t100_224, t100_225, t100_226, t100_227, t100_228, t100_231, t100_232, t100_234, t100_237, t100_240, t100_243, t100_246, t100_247, t100_248, t100_251, t100_254, t100_257, lk_s, hp_get, hp_set, uH_at, uH_ne, uH_upd, uH_swap, iZ_add, iZ_sub, iZ_mul, iZ_neg, iZ_lt, iZ_le, iZ_eq, iZ_div, iZ_of, ix_Z, gZ_map, gZ_mapI, gZ_map', le_0, le_s, sZ_map, sZ_len, bZ_0, bZ_inj, bZ_t, bZ_f, nr_i, nr_0, nr_1, nr_b, ft_i, ft_b, ft_0, ft_1, zl_0, zl_1, zl_3, zl_4, zl_40, zl_41, zl_44, zl_65, zl_90, zl_97, zl_100, mF_len, mg_0, mg_1, mg_2, mg_3, mg_4, mg_5, mg_6, mg_7, mg_8, mg_9, mg_10, mg_11, mg_12, mg_13, mg_14, mg_15, mg_16, mg_17, mg_18, mg_19, mg_20, mg_21, mg_22, mg_23, mg_24, mg_25, mg_26, mg_27, mg_28, mg_29, mg_30, mg_31, mg_32, mg_33, mg_34, mg_35, mg_36, mg_37, mg_38, ms_0, ms_1, ms_2, ms_13, ms_14, ms_15, ms_16, ms_21, ms_22, ms_23, ms_24, ms_28, ms_36, ms_37, ms_38, st_at, st_ne, st_st, st_swap, b2, b3, b4, -List.filter_filter, -List.getElem?_map, -List.getD_eq_getElem?_getD]
  · have hl2 := seg_le (D := D) (a := m 4) (b := m 3)
    obtain ⟨w', m', R', St', a1, a2, a3, a4, a5, a6, a7, a8⟩ := H.2 e (by omega)
    exact ⟨w', m', R', St', a1, a2, a3, a4, a5, a6, a7, Xc.of rfl (by simp [lg_sl, Value.category]) (g0 _ a8) (hp_le (Nat.le_refl _) (fun j _ => h.le a1 a2 j))⟩
def us1 (c h : Int) (z : List Int × Bool) : List Int × Bool := (sZ z.1 c h, z.2 || (decide (gZ z.1 c ≠ 0) && decide (gZ z.1 c ≠ h)))
def nt1 (h s : Int) (z : List Int × Bool) : List Int × Bool := if 100 ≤ s then us1 ((s - 100) / 4) ((ar s : Int) + h) z else z
def ntL : List Int → List Int × Bool → List Int × Bool
  | [], z => z
  | s :: t, z => ntL t (nt1 1 s z)
def ntA (t : List Int) (z : List Int × Bool) : List Int × Bool := match t with
  | [] => z
  | s :: u => ntL u (nt1 5 s z)
def UOK (U : List Int) : Prop := U.length = 26 ∧ ∀ i, 0 ≤ gZ U i ∧ gZ U i < 100
theorem sZ_or (S : List Int) (a v i : Int) : gZ (sZ S a v) i = v ∨ gZ (sZ S a v) i = gZ S i := by
  unfold gZ sZ
  rw [List.getD_eq_getElem?_getD, List.getD_eq_getElem?_getD, List.getElem?_set]
  by_cases h : a.toNat = i.toNat
  · rw [if_pos h]
    by_cases h2 : a.toNat < S.length
    · rw [if_pos h2]
      exact Or.inl rfl
    · rw [if_neg h2, List.getElem?_eq_none (by omega)]
      exact Or.inr rfl
  · rw [if_neg h]
    exact Or.inr rfl
theorem UOK.set {U : List Int} (h : UOK U) {c v : Int} (h0 : 0 ≤ v) (h1 : v < 100) : UOK (sZ U c v) := ⟨by rw [sZ_len]; exact h.1, fun i => by
  rcases sZ_or U c v i with e | e
  · rw [e]; omega
  · rw [e]; exact h.2 i⟩
theorem nt1_ok {h s : Int} {z : List Int × Bool} (hz : UOK z.1) (h0 : 0 ≤ h) (h1 : h < 10) : UOK (nt1 h s z).1 := by
  unfold nt1
  split
  · have := ar_le s
    exact hz.set (by omega) (by omega)
  · exact hz
theorem st102 (d : Nat) (hN : 53 ≤ N) (fr to : Int) (p : Bool) (s1 : R.length = 600) (hto : to ≤ 600) (k h : Int) (z : List Int × Bool) (k0 : 0 ≤ k) (k1 : k < to) (f0 : 0 ≤ fr) (f1 : fr ≤ k) (hm : w 27 = .inr (8, mF m)) (hR : w 38 = cI 0 R) (hU : w 36 = cI 0 z.1) (hz : UOK z.1) (h6 : m 6 = bZ z.2) (hr : 0 ≤ gZ R k ∧ gZ R k < 204) (hh : (k = fr ∧ p = true ∧ h = 5) ∨ ((k ≠ fr ∨ p = false) ∧ h = 1)) (hc : c1 lv) (l0 : x_lk lv 0 = some (.ref 30)) (l1 : x_lk lv 1 = some (.int (iZ fr))) (l2 : x_lk lv 2 = some (.int (iZ to))) (l3 : x_lk lv 3 = some (.int (iZ (bZ p)))) (l4 : x_lk lv 4 = some (.int (iZ k))) :
    ∃ (w' : Nat → xC) (m' : Nat → Int), Fr [27, 36] w w' ∧ w' 27 = .inr (8, mF m') ∧ (∀ i, i ≠ 6 → m' i = m i) ∧ m' 6 = bZ (nt1 h (gZ R k) z).2 ∧ w' 36 = cI 0 (nt1 h (gZ R k) z).1 ∧ ∀ res, Gx q_k102 (d + 1) 3 ((4, .int (iZ (k + 1))) :: lv.filter (x_keep 4), [], hp w' N) res → Gx q_k102 (d + 1) 3 (lv, [], hp w N) res := by
  have b1 : ¬ to ≤ k := by omega
  by_cases hs : 100 ≤ gZ R k
  · have X := m101 d w N (gZ R k) (by omega) (by omega)
    have ha := ar_le (gZ R k)
    have Y := m99 (b := z.2) d hN hm hU hz.1 ((gZ R k - 100) / 4) ((ar (gZ R k) : Int) + h) (by omega) (by omega) (by omega) (by omega) (hz.2 _) h6
    have en : nt1 h (gZ R k) z = us1 ((gZ R k - 100) / 4) ((ar (gZ R k) : Int) + h) z := if_pos hs
    refine ⟨uH (uH w 27 (.inr (8, mF (st_ m 6 (bZ (nt1 h (gZ R k) z).2))))) 36 (cI 0 (nt1 h (gZ R k) z).1), st_ m 6 (bZ (nt1 h (gZ R k) z).2), ((Fr.rf _ _).up (by decide)).up (by decide), by rw [uH_ne (by decide), uH_at], fun i hi => st_ne hi, st_at _ _ _, uH_at _ _ _, fun res hg => ?_⟩
    rw [en] at hg
    unfold us1 at hg
    refine Gx.run 60 (X.and Y) (fun C mm => ?_) hg
    obtain ⟨mm1, mm2⟩ := mm
    have b2 : ¬ gZ R k < 100 := by omega
    have hr1 := hr.1
    have hr2 := hr.2
    rcases hh with ⟨rfl, rfl, rfl⟩ | ⟨hh, rfl⟩
    · generalize decide (gZ z.1 ((gZ R k - 100) / 4) ≠ 0) = bb1 at mm2 ⊢
      generalize decide (gZ z.1 ((gZ R k - 100) / 4) ≠ (ar (gZ R k) : Int) + 5) = bb2 at mm2 ⊢
      generalize bZ (z.2 || (bb1 && bb2)) = bb3 at mm2 ⊢
      simp (disch := first | (refine c1_id ?_; assumption) | (refine c1_st rfl ?_; repeat (first | assumption | refine c1_st rfl ?_)) | omega) [nx_l, nx_r, nx_n, x_st, x_push, x_bin, x_div, x_un, x_dup, x_pop, x_dup2, x_goto, x_ifeq, x_ifne, x_iflt, x_ifge, x_ifgt, x_ifle, x_iceq, x_icne, x_iclt, x_icge, x_icgt, x_icle, x_ifnull, x_ifnonnull, x_ldi, x_lda, x_sti, x_sta, x_iinc, x_gf, x_pf, x_ald, x_ast, x_aln, x_len, x_cl_, x_cv, x_cs, x_rc, x_r0, x_isT, x_oi, x_rv, x_ri, x_ra, Value.category, t102_0, t102_1, t102_3, t102_5, t102_6, t102_9, t102_10, t102_13, t102_15, t102_16, t102_18, t102_21, t102_22, t102_23, t102_26, t102_28, t102_29, t102_31, t102_32, t102_33, t102_34, t102_35, t102_38, t102_40, t102_41, t102_44, t102_46, t102_47, t102_50, t102_51, t102_54, t102_55, t102_58, t102_59, t102_60, t102_63, t102_66, t102_69, lk_s, hp_get, hp_set, uH_at, uH_ne, uH_upd, uH_swap, iZ_add, iZ_sub, iZ_mul, iZ_neg, iZ_lt, iZ_le, iZ_eq, iZ_div, iZ_of, ix_Z, gZ_map, gZ_mapI, gZ_map', le_0, le_s, sZ_map, sZ_len, bZ_0, bZ_inj, bZ_t, bZ_f, nr_i, nr_0, nr_1, nr_b, ft_i, ft_b, ft_0, ft_1, zl_0, zl_1, zl_4, zl_5, zl_100, mF_len, mg_0, mg_1, mg_2, mg_3, mg_4, mg_5, mg_6, mg_7, mg_8, mg_9, mg_10, mg_11, mg_12, mg_13, mg_14, mg_15, mg_16, mg_17, mg_18, mg_19, mg_20, mg_21, mg_22, mg_23, mg_24, mg_25, mg_26, mg_27, mg_28, mg_29, mg_30, mg_31, mg_32, mg_33, mg_34, mg_35, mg_36, mg_37, mg_38, ms_0, ms_1, ms_2, ms_13, ms_14, ms_15, ms_16, ms_21, ms_22, ms_23, ms_24, ms_28, ms_36, ms_37, ms_38, st_at, st_ne, st_st, st_swap, l0, l1, l2, l3, l4, hm, hR, b1, b2, mm1, mm2, -List.filter_filter, -List.getElem?_map, -List.getD_eq_getElem?_getD]
    · generalize decide (gZ z.1 ((gZ R k - 100) / 4) ≠ 0) = bb1 at mm2 ⊢
      generalize decide (gZ z.1 ((gZ R k - 100) / 4) ≠ (ar (gZ R k) : Int) + 1) = bb2 at mm2 ⊢
      generalize bZ (z.2 || (bb1 && bb2)) = bb3 at mm2 ⊢
      by_cases hk : k = fr
      · have hp2 : p = false := by
          rcases hh with hh | hh
          · exact absurd hk hh
          · exact hh
        subst hp2
        subst hk
        simp (disch := first | (refine c1_id ?_; assumption) | (refine c1_st rfl ?_; repeat (first | assumption | refine c1_st rfl ?_)) | omega) [nx_l, nx_r, nx_n, x_st, x_push, x_bin, x_div, x_un, x_dup, x_pop, x_dup2, x_goto, x_ifeq, x_ifne, x_iflt, x_ifge, x_ifgt, x_ifle, x_iceq, x_icne, x_iclt, x_icge, x_icgt, x_icle, x_ifnull, x_ifnonnull, x_ldi, x_lda, x_sti, x_sta, x_iinc, x_gf, x_pf, x_ald, x_ast, x_aln, x_len, x_cl_, x_cv, x_cs, x_rc, x_r0, x_isT, x_oi, x_rv, x_ri, x_ra, Value.category, t102_0, t102_1, t102_3, t102_5, t102_6, t102_9, t102_10, t102_13, t102_15, t102_16, t102_18, t102_21, t102_22, t102_23, t102_26, t102_28, t102_29, t102_31, t102_32, t102_33, t102_34, t102_35, t102_38, t102_40, t102_41, t102_44, t102_46, t102_47, t102_50, t102_51, t102_54, t102_55, t102_58, t102_59, t102_60, t102_63, t102_66, t102_69, lk_s, hp_get, hp_set, uH_at, uH_ne, uH_upd, uH_swap, iZ_add, iZ_sub, iZ_mul, iZ_neg, iZ_lt, iZ_le, iZ_eq, iZ_div, iZ_of, ix_Z, gZ_map, gZ_mapI, gZ_map', le_0, le_s, sZ_map, sZ_len, bZ_0, bZ_inj, bZ_t, bZ_f, nr_i, nr_0, nr_1, nr_b, ft_i, ft_b, ft_0, ft_1, zl_0, zl_1, zl_4, zl_5, zl_100, mF_len, mg_0, mg_1, mg_2, mg_3, mg_4, mg_5, mg_6, mg_7, mg_8, mg_9, mg_10, mg_11, mg_12, mg_13, mg_14, mg_15, mg_16, mg_17, mg_18, mg_19, mg_20, mg_21, mg_22, mg_23, mg_24, mg_25, mg_26, mg_27, mg_28, mg_29, mg_30, mg_31, mg_32, mg_33, mg_34, mg_35, mg_36, mg_37, mg_38, ms_0, ms_1, ms_2, ms_13, ms_14, ms_15, ms_16, ms_21, ms_22, ms_23, ms_24, ms_28, ms_36, ms_37, ms_38, st_at, st_ne, st_st, st_swap, l0, l1, l2, l3, l4, hm, hR, b1, b2, mm1, mm2, -List.filter_filter, -List.getElem?_map, -List.getD_eq_getElem?_getD]
      · simp (disch := first | (refine c1_id ?_; assumption) | (refine c1_st rfl ?_; repeat (first | assumption | refine c1_st rfl ?_)) | omega) [nx_l, nx_r, nx_n, x_st, x_push, x_bin, x_div, x_un, x_dup, x_pop, x_dup2, x_goto, x_ifeq, x_ifne, x_iflt, x_ifge, x_ifgt, x_ifle, x_iceq, x_icne, x_iclt, x_icge, x_icgt, x_icle, x_ifnull, x_ifnonnull, x_ldi, x_lda, x_sti, x_sta, x_iinc, x_gf, x_pf, x_ald, x_ast, x_aln, x_len, x_cl_, x_cv, x_cs, x_rc, x_r0, x_isT, x_oi, x_rv, x_ri, x_ra, Value.category, t102_0, t102_1, t102_3, t102_5, t102_6, t102_9, t102_10, t102_13, t102_15, t102_16, t102_18, t102_21, t102_22, t102_23, t102_26, t102_28, t102_29, t102_31, t102_32, t102_33, t102_34, t102_35, t102_38, t102_40, t102_41, t102_44, t102_46, t102_47, t102_50, t102_51, t102_54, t102_55, t102_58, t102_59, t102_60, t102_63, t102_66, t102_69, lk_s, hp_get, hp_set, uH_at, uH_ne, uH_upd, uH_swap, iZ_add, iZ_sub, iZ_mul, iZ_neg, iZ_lt, iZ_le, iZ_eq, iZ_div, iZ_of, ix_Z, gZ_map, gZ_mapI, gZ_map', le_0, le_s, sZ_map, sZ_len, bZ_0, bZ_inj, bZ_t, bZ_f, nr_i, nr_0, nr_1, nr_b, ft_i, ft_b, ft_0, ft_1, zl_0, zl_1, zl_4, zl_5, zl_100, mF_len, mg_0, mg_1, mg_2, mg_3, mg_4, mg_5, mg_6, mg_7, mg_8, mg_9, mg_10, mg_11, mg_12, mg_13, mg_14, mg_15, mg_16, mg_17, mg_18, mg_19, mg_20, mg_21, mg_22, mg_23, mg_24, mg_25, mg_26, mg_27, mg_28, mg_29, mg_30, mg_31, mg_32, mg_33, mg_34, mg_35, mg_36, mg_37, mg_38, ms_0, ms_1, ms_2, ms_13, ms_14, ms_15, ms_16, ms_21, ms_22, ms_23, ms_24, ms_28, ms_36, ms_37, ms_38, st_at, st_ne, st_st, st_swap, l0, l1, l2, l3, l4, hm, hR, b1, b2, hk, mm1, mm2, -List.filter_filter, -List.getElem?_map, -List.getD_eq_getElem?_getD]
  · have en : nt1 h (gZ R k) z = z := if_neg hs
    refine ⟨w, m, Fr.rf _ _, hm, fun _ _ => rfl, by rw [en]; exact h6, by rw [en]; exact hU, fun res hg => Gx.run 40 Cs.tt (fun C _ => ?_) hg⟩
    have b2 : gZ R k < 100 := by omega
    have hr1 := hr.1
    simp (disch := first | (refine c1_id ?_; assumption) | (refine c1_st rfl ?_; repeat (first | assumption | refine c1_st rfl ?_)) | omega) [nx_l, nx_r, nx_n, x_st, x_push, x_bin, x_div, x_un, x_dup, x_pop, x_dup2, x_goto, x_ifeq, x_ifne, x_iflt, x_ifge, x_ifgt, x_ifle, x_iceq, x_icne, x_iclt, x_icge, x_icgt, x_icle, x_ifnull, x_ifnonnull, x_ldi, x_lda, x_sti, x_sta, x_iinc, x_gf, x_pf, x_ald, x_ast, x_aln, x_len, x_cl_, x_cv, x_cs, x_rc, x_r0, x_isT, x_oi, x_rv, x_ri, x_ra, Value.category, t102_0, t102_1, t102_3, t102_5, t102_6, t102_9, t102_10, t102_13, t102_15, t102_16, t102_18, t102_21, t102_22, t102_23, t102_26, t102_28, t102_29, t102_31, t102_32, t102_33, t102_34, t102_35, t102_38, t102_40, t102_41, t102_44, t102_46, t102_47, t102_50, t102_51, t102_54, t102_55, t102_58, t102_59, t102_60, t102_63, t102_66, t102_69, lk_s, hp_get, hp_set, uH_at, uH_ne, uH_upd, uH_swap, iZ_add, iZ_sub, iZ_mul, iZ_neg, iZ_lt, iZ_le, iZ_eq, iZ_div, iZ_of, ix_Z, gZ_map, gZ_mapI, gZ_map', le_0, le_s, sZ_map, sZ_len, bZ_0, bZ_inj, bZ_t, bZ_f, nr_i, nr_0, nr_1, nr_b, ft_i, ft_b, ft_0, ft_1, zl_0, zl_1, zl_4, zl_5, zl_100, mF_len, mg_0, mg_1, mg_2, mg_3, mg_4, mg_5, mg_6, mg_7, mg_8, mg_9, mg_10, mg_11, mg_12, mg_13, mg_14, mg_15, mg_16, mg_17, mg_18, mg_19, mg_20, mg_21, mg_22, mg_23, mg_24, mg_25, mg_26, mg_27, mg_28, mg_29, mg_30, mg_31, mg_32, mg_33, mg_34, mg_35, mg_36, mg_37, mg_38, ms_0, ms_1, ms_2, ms_13, ms_14, ms_15, ms_16, ms_21, ms_22, ms_23, ms_24, ms_28, ms_36, ms_37, ms_38, st_at, st_ne, st_st, st_swap, l0, l1, l2, l3, l4, hm, hR, b1, b2, -List.filter_filter, -List.getElem?_map, -List.getD_eq_getElem?_getD]
theorem l102 (d : Nat) (hN : 53 ≤ N) (fr to : Int) (p : Bool) (s1 : R.length = 600) (hto : to ≤ 600) (f0 : 0 ≤ fr) : ∀ (r : Nat) (k : Int) (z : List Int × Bool) (w : Nat → xC) (m : Nat → Int) (lv : xL), k + r = to → fr ≤ k → (k ≠ fr ∨ p = false) → w 27 = .inr (8, mF m) → w 38 = cI 0 R → w 36 = cI 0 z.1 → UOK z.1 → m 6 = bZ z.2 → (∀ i, k ≤ i → i < to → 0 ≤ gZ R i ∧ gZ R i < 204) → c1 lv → x_lk lv 0 = some (.ref 30) → x_lk lv 1 = some (.int (iZ fr)) → x_lk lv 2 = some (.int (iZ to)) → x_lk lv 3 = some (.int (iZ (bZ p))) → x_lk lv 4 = some (.int (iZ k)) →
    ∃ (w' : Nat → xC) (m' : Nat → Int), Fr [27, 36] w w' ∧ w' 27 = .inr (8, mF m') ∧ (∀ i, i ≠ 6 → m' i = m i) ∧ m' 6 = bZ (ntL (seg R k to) z).2 ∧ w' 36 = cI 0 (ntL (seg R k to) z).1 ∧ UOK (ntL (seg R k to) z).1 ∧ Gx q_k102 (d + 1) 3 (lv, [], hp w N) (none, hp w' N) := by
  intro r
  induction r with
  | zero =>
    intro k z w m lv hk hf hh hm hR hU hz h6 hr hc l0 l1 l2 l3 l4
    have ek : k = to := by omega
    subst ek
    rw [seg_nil]
    refine ⟨w, m, Fr.rf _ _, hm, fun _ _ => rfl, h6, hU, hz, Gx.fin 20 Cs.tt (fun C _ => ?_)⟩
    simp (disch := first | (refine c1_id ?_; assumption) | (refine c1_st rfl ?_; repeat (first | assumption | refine c1_st rfl ?_)) | omega) [nx_l, nx_r, nx_n, x_st, x_push, x_bin, x_div, x_un, x_dup, x_pop, x_dup2, x_goto, x_ifeq, x_ifne, x_iflt, x_ifge, x_ifgt, x_ifle, x_iceq, x_icne, x_iclt, x_icge, x_icgt, x_icle, x_ifnull, x_ifnonnull, x_ldi, x_lda, x_sti, x_sta, x_iinc, x_gf, x_pf, x_ald, x_ast, x_aln, x_len, x_cl_, x_cv, x_cs, x_rc, x_r0, x_isT, x_oi, x_rv, x_ri, x_ra, Value.category, t102_0, t102_1, t102_3, t102_5, t102_6, t102_9, t102_10, t102_13, t102_15, t102_16, t102_18, t102_21, t102_22, t102_23, t102_26, t102_28, t102_29, t102_31, t102_32, t102_33, t102_34, t102_35, t102_38, t102_40, t102_41, t102_44, t102_46, t102_47, t102_50, t102_51, t102_54, t102_55, t102_58, t102_59, t102_60, t102_63, t102_66, t102_69, lk_s, hp_get, hp_set, uH_at, uH_ne, uH_upd, uH_swap, iZ_add, iZ_sub, iZ_mul, iZ_neg, iZ_lt, iZ_le, iZ_eq, iZ_div, iZ_of, ix_Z, gZ_map, gZ_mapI, gZ_map', le_0, le_s, sZ_map, sZ_len, bZ_0, bZ_inj, bZ_t, bZ_f, nr_i, nr_0, nr_1, nr_b, ft_i, ft_b, ft_0, ft_1, zl_0, zl_1, zl_4, zl_5, zl_100, mF_len, mg_0, mg_1, mg_2, mg_3, mg_4, mg_5, mg_6, mg_7, mg_8, mg_9, mg_10, mg_11, mg_12, mg_13, mg_14, mg_15, mg_16, mg_17, mg_18, mg_19, mg_20, mg_21, mg_22, mg_23, mg_24, mg_25, mg_26, mg_27, mg_28, mg_29, mg_30, mg_31, mg_32, mg_33, mg_34, mg_35, mg_36, mg_37, mg_38, ms_0, ms_1, ms_2, ms_13, ms_14, ms_15, ms_16, ms_21, ms_22, ms_23, ms_24, ms_28, ms_36, ms_37, ms_38, st_at, st_ne, st_st, st_swap, l0, l1, l2, l3, l4, -List.filter_filter, -List.getElem?_map, -List.getD_eq_getElem?_getD]
  | succ r ih =>
    intro k z w m lv hk hf hh hm hR hU hz h6 hr hc l0 l1 l2 l3 l4
    obtain ⟨w1, m1, a1, a2, a3, a4, a5, a6⟩ := st102 d hN fr to p s1 hto k 1 z (by omega) (by omega) f0 hf hm hR hU hz h6 (hr k (by omega) (by omega)) (Or.inr ⟨hh, rfl⟩) hc l0 l1 l2 l3 l4
    have C4 := c1_st (i := 4) (v := .int (iZ (k + 1))) rfl hc
    obtain ⟨w2, m2, b1, b2, b3, b4, b5, b6, b7⟩ := ih (k + 1) (nt1 1 (gZ R k) z) w1 m1 _ (by omega) (by omega) (Or.inl (by omega)) a2 ((a1 38 (by decide)).trans hR) a5 (nt1_ok hz (by omega) (by omega)) a4 (fun i i0 i1 => hr i (by omega) i1) C4 (by rw [lk_s hc]; exact l0) (by rw [lk_s hc]; exact l1) (by rw [lk_s hc]; exact l2) (by rw [lk_s hc]; exact l3) (by rw [lk_s hc]; rfl)
    rw [seg_cons (by omega) (by omega) (by omega)]
    exact ⟨w2, m2, a1.tr b1, b2, fun i hi => (b3 i hi).trans (a3 i hi), b4, b5, b6, a6 _ b7⟩
theorem m102 (d : Nat) (hN : 53 ≤ N) (fr to : Int) (p : Bool) (s1 : R.length = 600) (f0 : 0 ≤ fr) (f1 : fr ≤ to) (hto : to ≤ 600) (z : List Int × Bool) (hm : w 27 = .inr (8, mF m)) (hR : w 38 = cI 0 R) (hU : w 36 = cI 0 z.1) (hz : UOK z.1) (h6 : m 6 = bZ z.2) (hr : ∀ i, fr ≤ i → i < to → 0 ≤ gZ R i ∧ gZ R i < 204) :
    ∃ (w' : Nat → xC) (m' : Nat → Int), Fr [27, 36] w w' ∧ w' 27 = .inr (8, mF m') ∧ (∀ i, i ≠ 6 → m' i = m i) ∧ m' 6 = bZ (if p = true then ntA (seg R fr to) z else ntL (seg R fr to) z).2 ∧ w' 36 = cI 0 (if p = true then ntA (seg R fr to) z else ntL (seg R fr to) z).1 ∧ UOK (if p = true then ntA (seg R fr to) z else ntL (seg R fr to) z).1 ∧ Xc (d + 2) 102 [.ref 30, .int (iZ fr), .int (iZ to), .int (iZ (bZ p))] (hp w N) (none, hp w' N) := by
  have hc : c1 (lv_args 0 [.ref 30, .int (iZ fr), .int (iZ to), .int (iZ (bZ p))]) := by simp [c1, lv_args, Value.category]
  have l0 : x_lk (lv_args 0 [.ref 30, .int (iZ fr), .int (iZ to), .int (iZ (bZ p))]) 0 = some (.ref 30) := rfl
  have l1 : x_lk (lv_args 0 [.ref 30, .int (iZ fr), .int (iZ to), .int (iZ (bZ p))]) 1 = some (.int (iZ fr)) := rfl
  have l2 : x_lk (lv_args 0 [.ref 30, .int (iZ fr), .int (iZ to), .int (iZ (bZ p))]) 2 = some (.int (iZ to)) := rfl
  have l3 : x_lk (lv_args 0 [.ref 30, .int (iZ fr), .int (iZ to), .int (iZ (bZ p))]) 3 = some (.int (iZ (bZ p))) := rfl
  have C4 := c1_st (i := 4) (v := .int (iZ fr)) rfl hc
  have g0 : ∀ res, Gx q_k102 (d + 1) 3 ((4, .int (iZ fr)) :: List.filter (x_keep 4) (lv_args 0 [.ref 30, .int (iZ fr), .int (iZ to), .int (iZ (bZ p))]), [], hp w N) res → Gx q_k102 (d + 1) 0 (lv_args 0 [.ref 30, .int (iZ fr), .int (iZ to), .int (iZ (bZ p))], [], hp w N) res := fun res hg => by
    generalize lv_args 0 [.ref 30, .int (iZ fr), .int (iZ to), .int (iZ (bZ p))] = lv0 at hc hg l1
    refine Gx.run 20 Cs.tt (fun C _ => ?_) hg
    simp (disch := first | (refine c1_id ?_; assumption) | (refine c1_st rfl ?_; repeat (first | assumption | refine c1_st rfl ?_)) | omega) [nx_l, nx_r, nx_n, x_st, x_push, x_bin, x_div, x_un, x_dup, x_pop, x_dup2, x_goto, x_ifeq, x_ifne, x_iflt, x_ifge, x_ifgt, x_ifle, x_iceq, x_icne, x_iclt, x_icge, x_icgt, x_icle, x_ifnull, x_ifnonnull, x_ldi, x_lda, x_sti, x_sta, x_iinc, x_gf, x_pf, x_ald, x_ast, x_aln, x_len, x_cl_, x_cv, x_cs, x_rc, x_r0, x_isT, x_oi, x_rv, x_ri, x_ra, Value.category, t102_0, t102_1, t102_3, t102_5, t102_6, t102_9, t102_10, t102_13, t102_15, t102_16, t102_18, t102_21, t102_22, t102_23, t102_26, t102_28, t102_29, t102_31, t102_32, t102_33, t102_34, t102_35, t102_38, t102_40, t102_41, t102_44, t102_46, t102_47, t102_50, t102_51, t102_54, t102_55, t102_58, t102_59, t102_60, t102_63, t102_66, t102_69, lk_s, hp_get, hp_set, uH_at, uH_ne, uH_upd, uH_swap, iZ_add, iZ_sub, iZ_mul, iZ_neg, iZ_lt, iZ_le, iZ_eq, iZ_div, iZ_of, ix_Z, gZ_map, gZ_mapI, gZ_map', le_0, le_s, sZ_map, sZ_len, bZ_0, bZ_inj, bZ_t, bZ_f, nr_i, nr_0, nr_1, nr_b, ft_i, ft_b, ft_0, ft_1, zl_0, zl_1, zl_4, zl_5, zl_100, mF_len, mg_0, mg_1, mg_2, mg_3, mg_4, mg_5, mg_6, mg_7, mg_8, mg_9, mg_10, mg_11, mg_12, mg_13, mg_14, mg_15, mg_16, mg_17, mg_18, mg_19, mg_20, mg_21, mg_22, mg_23, mg_24, mg_25, mg_26, mg_27, mg_28, mg_29, mg_30, mg_31, mg_32, mg_33, mg_34, mg_35, mg_36, mg_37, mg_38, ms_0, ms_1, ms_2, ms_13, ms_14, ms_15, ms_16, ms_21, ms_22, ms_23, ms_24, ms_28, ms_36, ms_37, ms_38, st_at, st_ne, st_st, st_swap, l1, -List.filter_filter, -List.getElem?_map, -List.getD_eq_getElem?_getD]
  have le : ∀ (w' : Nat → xC) (m' : Nat → Int) (U' : List Int), Fr [27, 36] w w' → w' 27 = .inr (8, mF m') → w' 36 = cI 0 U' → UOK U' → x_le (hp w N) (hp w' N) := fun w' m' U' a1 a2 a3 a4 => hp_le (Nat.le_refl _) (fun j _ => by
    by_cases hj : j ∈ ([27, 36] : List Nat)
    · simp only [List.mem_cons, List.not_mem_nil, or_false] at hj
      rcases hj with rfl | rfl
      · rw [hm, a2]; simp [x_c1, mF_len]
      · rw [hU, a3]; simp [x_c1, hz.1, a4.1]
    · rw [a1 j hj]
      exact Nat.le_refl _)
  cases p with
  | false =>
    rw [if_neg (by decide)]
    obtain ⟨w2, m2, b1, b2, b3, b4, b5, b6, b7⟩ := l102 d hN fr to false s1 hto f0 (to - fr).toNat fr z w m _ (by omega) (by omega) (Or.inr rfl) hm hR hU hz h6 hr C4 (by rw [lk_s hc]; exact l0) (by rw [lk_s hc]; exact l1) (by rw [lk_s hc]; exact l2) (by rw [lk_s hc]; exact l3) (by rw [lk_s hc]; rfl)
    exact ⟨w2, m2, b1, b2, b3, b4, b5, b6, Xc.of rfl (by simp [lg_sl, Value.category]) (g0 _ b7) (le w2 m2 _ b1 b2 b5 b6)⟩
  | true =>
    rw [if_pos rfl]
    by_cases hft : fr < to
    · obtain ⟨w1, m1, a1, a2, a3, a4, a5, a6⟩ := st102 d hN fr to true s1 hto fr 5 z (by omega) (by omega) f0 (by omega) hm hR hU hz h6 (hr fr (by omega) (by omega)) (Or.inl ⟨rfl, rfl, rfl⟩) C4 (by rw [lk_s hc]; exact l0) (by rw [lk_s hc]; exact l1) (by rw [lk_s hc]; exact l2) (by rw [lk_s hc]; exact l3) (by rw [lk_s hc]; rfl)
      have C5 := c1_st (i := 4) (v := .int (iZ (fr + 1))) rfl C4
      obtain ⟨w2, m2, b1, b2, b3, b4, b5, b6, b7⟩ := l102 d hN fr to true s1 hto f0 (to - (fr + 1)).toNat (fr + 1) (nt1 5 (gZ R fr) z) w1 m1 _ (by omega) (by omega) (Or.inl (by omega)) a2 ((a1 38 (by decide)).trans hR) a5 (nt1_ok hz (by omega) (by omega)) a4 (fun i i0 i1 => hr i (by omega) i1) C5 (by rw [lk_s C4, lk_s hc]; exact l0) (by rw [lk_s C4, lk_s hc]; exact l1) (by rw [lk_s C4, lk_s hc]; exact l2) (by rw [lk_s C4, lk_s hc]; exact l3) (by rw [lk_s C4]; rfl)
      have es : ntA (seg R fr to) z = ntL (seg R (fr + 1) to) (nt1 5 (gZ R fr) z) := by
        rw [seg_cons (by omega) hft (by omega)]
        rfl
      rw [es]
      exact ⟨w2, m2, a1.tr b1, b2, fun i hi => (b3 i hi).trans (a3 i hi), b4, b5, b6, Xc.of rfl (by simp [lg_sl, Value.category]) (g0 _ (a6 _ b7)) (le w2 m2 _ (a1.tr b1) b2 b5 b6)⟩
    · have ef : fr = to := by omega
      have es : ntA (seg R fr to) z = z := by
        rw [ef, seg_nil]
        rfl
      rw [es]
      refine ⟨w, m, Fr.rf _ _, hm, fun _ _ => rfl, h6, hU, hz, Xc.of rfl (by simp [lg_sl, Value.category]) (g0 _ (Gx.fin 20 Cs.tt (fun C _ => ?_))) x_le.rf⟩
      have e2 : x_lk ((4, .int (iZ fr)) :: List.filter (x_keep 4) (lv_args 0 [.ref 30, .int (iZ fr), .int (iZ to), .int (iZ (bZ true))])) 2 = some (.int (iZ fr)) := by rw [lk_s hc, ef]; rfl
      have e4 : x_lk ((4, .int (iZ fr)) :: List.filter (x_keep 4) (lv_args 0 [.ref 30, .int (iZ fr), .int (iZ to), .int (iZ (bZ true))])) 4 = some (.int (iZ fr)) := by rw [lk_s hc]; rfl
      generalize ((4, .int (iZ fr)) :: List.filter (x_keep 4) (lv_args 0 [.ref 30, .int (iZ fr), .int (iZ to), .int (iZ (bZ true))]) : xL) = lv1 at C4 e2 e4
      simp (disch := first | (refine c1_id ?_; assumption) | (refine c1_st rfl ?_; repeat (first | assumption | refine c1_st rfl ?_)) | omega) [nx_l, nx_r, nx_n, x_st, x_push, x_bin, x_div, x_un, x_dup, x_pop, x_dup2, x_goto, x_ifeq, x_ifne, x_iflt, x_ifge, x_ifgt, x_ifle, x_iceq, x_icne, x_iclt, x_icge, x_icgt, x_icle, x_ifnull, x_ifnonnull, x_ldi, x_lda, x_sti, x_sta, x_iinc, x_gf, x_pf, x_ald, x_ast, x_aln, x_len, x_cl_, x_cv, x_cs, x_rc, x_r0, x_isT, x_oi, x_rv, x_ri, x_ra, Value.category, t102_0, t102_1, t102_3, t102_5, t102_6, t102_9, t102_10, t102_13, t102_15, t102_16, t102_18, t102_21, t102_22, t102_23, t102_26, t102_28, t102_29, t102_31, t102_32, t102_33, t102_34, t102_35, t102_38, t102_40, t102_41, t102_44, t102_46, t102_47, t102_50, t102_51, t102_54, t102_55, t102_58, t102_59, t102_60, t102_63, t102_66, t102_69, lk_s, hp_get, hp_set, uH_at, uH_ne, uH_upd, uH_swap, iZ_add, iZ_sub, iZ_mul, iZ_neg, iZ_lt, iZ_le, iZ_eq, iZ_div, iZ_of, ix_Z, gZ_map, gZ_mapI, gZ_map', le_0, le_s, sZ_map, sZ_len, bZ_0, bZ_inj, bZ_t, bZ_f, nr_i, nr_0, nr_1, nr_b, ft_i, ft_b, ft_0, ft_1, zl_0, zl_1, zl_4, zl_5, zl_100, mF_len, mg_0, mg_1, mg_2, mg_3, mg_4, mg_5, mg_6, mg_7, mg_8, mg_9, mg_10, mg_11, mg_12, mg_13, mg_14, mg_15, mg_16, mg_17, mg_18, mg_19, mg_20, mg_21, mg_22, mg_23, mg_24, mg_25, mg_26, mg_27, mg_28, mg_29, mg_30, mg_31, mg_32, mg_33, mg_34, mg_35, mg_36, mg_37, mg_38, ms_0, ms_1, ms_2, ms_13, ms_14, ms_15, ms_16, ms_21, ms_22, ms_23, ms_24, ms_28, ms_36, ms_37, ms_38, st_at, st_ne, st_st, st_swap, e2, e4, -List.filter_filter, -List.getElem?_map, -List.getD_eq_getElem?_getD]
end NT
