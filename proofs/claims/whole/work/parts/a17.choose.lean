/-! the class: the choice among the rules -/
theorem f60_0 : x_fetch q_k60 0 = x_lda 1 0 := rfl
theorem t60_0 (C : xF) (s n : Nat) (z : xS) : x_to q_k60 C s (n + 1) 0 z = x_nx q_k60 C s n ((x_lda 1 0) C z) := x_to_at f60_0 C s n z
theorem f60_1 : x_fetch q_k60 1 = x_lda 2 2 := rfl
theorem t60_1 (C : xF) (s n : Nat) (z : xS) : x_to q_k60 C s (n + 1) 1 z = x_nx q_k60 C s n ((x_lda 2 2) C z) := x_to_at f60_1 C s n z
theorem f60_2 : x_fetch q_k60 2 = x_ldi 3 3 := rfl
theorem t60_2 (C : xF) (s n : Nat) (z : xS) : x_to q_k60 C s (n + 1) 2 z = x_nx q_k60 C s n ((x_ldi 3 3) C z) := x_to_at f60_2 C s n z
theorem f60_3 : x_fetch q_k60 3 = x_cv 6 11 2 4 := rfl
theorem t60_3 (C : xF) (s n : Nat) (z : xS) : x_to q_k60 C s (n + 1) 3 z = x_nx q_k60 C s n ((x_cv 6 11 2 4) C z) := x_to_at f60_3 C s n z
theorem f60_6 : x_fetch q_k60 6 = x_pf 9 2 4 (.int) := rfl
theorem t60_6 (C : xF) (s n : Nat) (z : xS) : x_to q_k60 C s (n + 1) 6 z = x_nx q_k60 C s n ((x_pf 9 2 4 (.int)) C z) := x_to_at f60_6 C s n z
theorem f60_9 : x_fetch q_k60 9 = x_lda 10 0 := rfl
theorem t60_9 (C : xF) (s n : Nat) (z : xS) : x_to q_k60 C s (n + 1) 9 z = x_nx q_k60 C s n ((x_lda 10 0) C z) := x_to_at f60_9 C s n z
theorem f60_10 : x_fetch q_k60 10 = x_st (x_push 11 (.int (-1))) := rfl
theorem t60_10 (C : xF) (s n : Nat) (z : xS) : x_to q_k60 C s (n + 1) 10 z = x_nx q_k60 C s n ((x_st (x_push 11 (.int (-1)))) C z) := x_to_at f60_10 C s n z
theorem f60_11 : x_fetch q_k60 11 = x_pf 14 2 5 (.int) := rfl
theorem t60_11 (C : xF) (s n : Nat) (z : xS) : x_to q_k60 C s (n + 1) 11 z = x_nx q_k60 C s n ((x_pf 14 2 5 (.int)) C z) := x_to_at f60_11 C s n z
theorem f60_14 : x_fetch q_k60 14 = x_lda 15 0 := rfl
theorem t60_14 (C : xF) (s n : Nat) (z : xS) : x_to q_k60 C s (n + 1) 14 z = x_nx q_k60 C s n ((x_lda 15 0) C z) := x_to_at f60_14 C s n z
theorem f60_15 : x_fetch q_k60 15 = x_st (x_push 16 (.int (-1))) := rfl
theorem t60_15 (C : xF) (s n : Nat) (z : xS) : x_to q_k60 C s (n + 1) 15 z = x_nx q_k60 C s n ((x_st (x_push 16 (.int (-1)))) C z) := x_to_at f60_15 C s n z
theorem f60_16 : x_fetch q_k60 16 = x_pf 19 2 6 (.int) := rfl
theorem t60_16 (C : xF) (s n : Nat) (z : xS) : x_to q_k60 C s (n + 1) 16 z = x_nx q_k60 C s n ((x_pf 19 2 6 (.int)) C z) := x_to_at f60_16 C s n z
theorem f60_19 : x_fetch q_k60 19 = x_lda 20 0 := rfl
theorem t60_19 (C : xF) (s n : Nat) (z : xS) : x_to q_k60 C s (n + 1) 19 z = x_nx q_k60 C s n ((x_lda 20 0) C z) := x_to_at f60_19 C s n z
theorem f60_20 : x_fetch q_k60 20 = x_st (x_push 21 (.int (-1))) := rfl
theorem t60_20 (C : xF) (s n : Nat) (z : xS) : x_to q_k60 C s (n + 1) 20 z = x_nx q_k60 C s n ((x_st (x_push 21 (.int (-1)))) C z) := x_to_at f60_20 C s n z
theorem f60_21 : x_fetch q_k60 21 = x_pf 24 2 7 (.int) := rfl
theorem t60_21 (C : xF) (s n : Nat) (z : xS) : x_to q_k60 C s (n + 1) 21 z = x_nx q_k60 C s n ((x_pf 24 2 7 (.int)) C z) := x_to_at f60_21 C s n z
theorem f60_24 : x_fetch q_k60 24 = x_ldi 25 1 := rfl
theorem t60_24 (C : xF) (s n : Nat) (z : xS) : x_to q_k60 C s (n + 1) 24 z = x_nx q_k60 C s n ((x_ldi 25 1) C z) := x_to_at f60_24 C s n z
theorem f60_25 : x_fetch q_k60 25 = x_st (x_tsw 0 2 [52, 63, 72] 79) := rfl
theorem t60_25 (C : xF) (s n : Nat) (z : xS) : x_to q_k60 C s (n + 1) 25 z = x_nx q_k60 C s n ((x_st (x_tsw 0 2 [52, 63, 72] 79)) C z) := x_to_at f60_25 C s n z
theorem f60_52 : x_fetch q_k60 52 = x_lda 53 0 := rfl
theorem t60_52 (C : xF) (s n : Nat) (z : xS) : x_to q_k60 C s (n + 1) 52 z = x_nx q_k60 C s n ((x_lda 53 0) C z) := x_to_at f60_52 C s n z
theorem f60_53 : x_fetch q_k60 53 = x_lda 54 2 := rfl
theorem t60_53 (C : xF) (s n : Nat) (z : xS) : x_to q_k60 C s (n + 1) 53 z = x_nx q_k60 C s n ((x_lda 54 2) C z) := x_to_at f60_53 C s n z
theorem f60_54 : x_fetch q_k60 54 = x_ldi 55 3 := rfl
theorem t60_54 (C : xF) (s n : Nat) (z : xS) : x_to q_k60 C s (n + 1) 54 z = x_nx q_k60 C s n ((x_ldi 55 3) C z) := x_to_at f60_54 C s n z
theorem f60_55 : x_fetch q_k60 55 = x_lda 57 4 := rfl
theorem t60_55 (C : xF) (s n : Nat) (z : xS) : x_to q_k60 C s (n + 1) 55 z = x_nx q_k60 C s n ((x_lda 57 4) C z) := x_to_at f60_55 C s n z
theorem f60_57 : x_fetch q_k60 57 = x_ldi 59 5 := rfl
theorem t60_57 (C : xF) (s n : Nat) (z : xS) : x_to q_k60 C s (n + 1) 57 z = x_nx q_k60 C s n ((x_ldi 59 5) C z) := x_to_at f60_57 C s n z
theorem f60_59 : x_fetch q_k60 59 = x_cv 62 61 5 2 := rfl
theorem t60_59 (C : xF) (s n : Nat) (z : xS) : x_to q_k60 C s (n + 1) 59 z = x_nx q_k60 C s n ((x_cv 62 61 5 2) C z) := x_to_at f60_59 C s n z
theorem f60_62 : x_fetch q_k60 62 = x_ri (.boolean) := rfl
theorem t60_62 (C : xF) (s n : Nat) (z : xS) : x_to q_k60 C s (n + 1) 62 z = x_nx q_k60 C s n ((x_ri (.boolean)) C z) := x_to_at f60_62 C s n z
theorem f60_63 : x_fetch q_k60 63 = x_lda 64 0 := rfl
theorem t60_63 (C : xF) (s n : Nat) (z : xS) : x_to q_k60 C s (n + 1) 63 z = x_nx q_k60 C s n ((x_lda 64 0) C z) := x_to_at f60_63 C s n z
theorem f60_64 : x_fetch q_k60 64 = x_lda 65 2 := rfl
theorem t60_64 (C : xF) (s n : Nat) (z : xS) : x_to q_k60 C s (n + 1) 64 z = x_nx q_k60 C s n ((x_lda 65 2) C z) := x_to_at f60_64 C s n z
theorem f60_65 : x_fetch q_k60 65 = x_ldi 66 3 := rfl
theorem t60_65 (C : xF) (s n : Nat) (z : xS) : x_to q_k60 C s (n + 1) 65 z = x_nx q_k60 C s n ((x_ldi 66 3) C z) := x_to_at f60_65 C s n z
theorem f60_66 : x_fetch q_k60 66 = x_ldi 68 5 := rfl
theorem t60_66 (C : xF) (s n : Nat) (z : xS) : x_to q_k60 C s (n + 1) 66 z = x_nx q_k60 C s n ((x_ldi 68 5) C z) := x_to_at f60_66 C s n z
theorem f60_68 : x_fetch q_k60 68 = x_cv 71 62 4 2 := rfl
theorem t60_68 (C : xF) (s n : Nat) (z : xS) : x_to q_k60 C s (n + 1) 68 z = x_nx q_k60 C s n ((x_cv 71 62 4 2) C z) := x_to_at f60_68 C s n z
theorem f60_71 : x_fetch q_k60 71 = x_ri (.boolean) := rfl
theorem t60_71 (C : xF) (s n : Nat) (z : xS) : x_to q_k60 C s (n + 1) 71 z = x_nx q_k60 C s n ((x_ri (.boolean)) C z) := x_to_at f60_71 C s n z
theorem f60_72 : x_fetch q_k60 72 = x_lda 73 0 := rfl
theorem t60_72 (C : xF) (s n : Nat) (z : xS) : x_to q_k60 C s (n + 1) 72 z = x_nx q_k60 C s n ((x_lda 73 0) C z) := x_to_at f60_72 C s n z
theorem f60_73 : x_fetch q_k60 73 = x_lda 74 2 := rfl
theorem t60_73 (C : xF) (s n : Nat) (z : xS) : x_to q_k60 C s (n + 1) 73 z = x_nx q_k60 C s n ((x_lda 74 2) C z) := x_to_at f60_73 C s n z
theorem f60_74 : x_fetch q_k60 74 = x_ldi 75 3 := rfl
theorem t60_74 (C : xF) (s n : Nat) (z : xS) : x_to q_k60 C s (n + 1) 74 z = x_nx q_k60 C s n ((x_ldi 75 3) C z) := x_to_at f60_74 C s n z
theorem f60_75 : x_fetch q_k60 75 = x_cv 78 63 3 2 := rfl
theorem t60_75 (C : xF) (s n : Nat) (z : xS) : x_to q_k60 C s (n + 1) 75 z = x_nx q_k60 C s n ((x_cv 78 63 3 2) C z) := x_to_at f60_75 C s n z
theorem f60_78 : x_fetch q_k60 78 = x_ri (.boolean) := rfl
theorem t60_78 (C : xF) (s n : Nat) (z : xS) : x_to q_k60 C s (n + 1) 78 z = x_nx q_k60 C s n ((x_ri (.boolean)) C z) := x_to_at f60_78 C s n z
theorem f60_79 : x_fetch q_k60 79 = x_lda 80 0 := rfl
theorem t60_79 (C : xF) (s n : Nat) (z : xS) : x_to q_k60 C s (n + 1) 79 z = x_nx q_k60 C s n ((x_lda 80 0) C z) := x_to_at f60_79 C s n z
theorem f60_80 : x_fetch q_k60 80 = x_lda 81 2 := rfl
theorem t60_80 (C : xF) (s n : Nat) (z : xS) : x_to q_k60 C s (n + 1) 80 z = x_nx q_k60 C s n ((x_lda 81 2) C z) := x_to_at f60_80 C s n z
theorem f60_81 : x_fetch q_k60 81 = x_ldi 82 3 := rfl
theorem t60_81 (C : xF) (s n : Nat) (z : xS) : x_to q_k60 C s (n + 1) 81 z = x_nx q_k60 C s n ((x_ldi 82 3) C z) := x_to_at f60_81 C s n z
theorem f60_82 : x_fetch q_k60 82 = x_lda 84 4 := rfl
theorem t60_82 (C : xF) (s n : Nat) (z : xS) : x_to q_k60 C s (n + 1) 82 z = x_nx q_k60 C s n ((x_lda 84 4) C z) := x_to_at f60_82 C s n z
theorem f60_84 : x_fetch q_k60 84 = x_ldi 86 5 := rfl
theorem t60_84 (C : xF) (s n : Nat) (z : xS) : x_to q_k60 C s (n + 1) 84 z = x_nx q_k60 C s n ((x_ldi 86 5) C z) := x_to_at f60_84 C s n z
theorem f60_86 : x_fetch q_k60 86 = x_ldi 88 6 := rfl
theorem t60_86 (C : xF) (s n : Nat) (z : xS) : x_to q_k60 C s (n + 1) 86 z = x_nx q_k60 C s n ((x_ldi 88 6) C z) := x_to_at f60_86 C s n z
theorem f60_88 : x_fetch q_k60 88 = x_cv 91 64 6 2 := rfl
theorem t60_88 (C : xF) (s n : Nat) (z : xS) : x_to q_k60 C s (n + 1) 88 z = x_nx q_k60 C s n ((x_cv 91 64 6 2) C z) := x_to_at f60_88 C s n z
theorem f60_91 : x_fetch q_k60 91 = x_ri (.boolean) := rfl
theorem t60_91 (C : xF) (s n : Nat) (z : xS) : x_to q_k60 C s (n + 1) 91 z = x_nx q_k60 C s n ((x_ri (.boolean)) C z) := x_to_at f60_91 C s n z
section DC
variable {N : Nat} {l wt : Int} {w : Nat → xC} {D D2 : List (Int × List Int)} {a b : Nat} {S E B S2 E2 B2 Ee : List Int} {c o c2 o2 : Int} {q1 q2 q3 q4 q5 q6 : Int}
theorem m60_0 (d : Nat) (hN : 53 ≤ N) (hd : w 11 = dO q1 q2 q3 q4 q5 q6) (k k2 : Nat) (hk : k < D.length) (hk2 : k2 < D2.length) (p : Int) (h3a : ∀ j, a ≤ j → j ≤ a + 3 → j ≠ 11) (hf : fo w a S E B c (flt D).length o) (hfN : fN N a S E B) (hW : FW D S E B) (hg : gV D) (lE : D.length ≤ E.length) (lB : D.length ≤ B.length) (lS : (flt D).length ≤ S.length) (f9 : (flt D).length ≤ 40) (h3b : ∀ j, b ≤ j → j ≤ b + 3 → j ≠ 11) (hf2 : fo w b S2 E2 B2 c2 (flt D2).length o2) (hfN2 : fN N b S2 E2 B2) (hW2 : FW D2 S2 E2 B2) (hg2 : gV D2) (lE2 : D2.length ≤ E2.length) (lB2 : D2.length ≤ B2.length) (f92 : (flt D2).length ≤ 40) :
    Xc (d + 4) 60 [.ref 14, .int (iZ 0), .ref (a + 3), .int (iZ (k : Int)), .ref (b + 3), .int (iZ (k2 : Int)), .int (iZ p)] (hp w N) (some (.int (iZ (bZ (decide ((lC D k).1 ≠ (lC D2 k2).1))))), hp (uH w 11 (dO (stC D k) ((flt D).length + stC D2 k2) (stC D k) ((flt D).length + stC D2 k2) (-1) (-1))) N) := by
  have kE := hfN.2.2.1
  have na := hfN.1
  have X1 := m11 (d + 2) (k : Int) hf hfN (by omega) (by omega)
  rw [hW.st (by omega)] at X1
  obtain ⟨w1, hw1⟩ : ∃ w1, w1 = uH w 11 (dO q1 q2 (stC D k) (-1) (-1) (-1)) := ⟨_, rfl⟩
  have hd1 : w1 11 = dO q1 q2 (stC D k) (-1) (-1) (-1) := by rw [hw1, uH_at]
  have hf1 : fo w1 a S E B c (flt D).length o := by rw [hw1]; exact hf.up11 h3a _
  have hf21 : fo w1 b S2 E2 B2 c2 (flt D2).length o2 := by rw [hw1]; exact hf2.up11 h3b _
  have X2 := m61 (w := w1) (d + 1) hd1 (by omega) k k2 hk hk2 (h3a a (by omega) (by omega)) (h3b b (by omega) (by omega)) h3a h3b hf1 hfN hW hg lE lB f9 hf21 hfN2 hW2 hg2 lE2 lB2
  rw [hw1, uH_upd] at X2
  obtain ⟨fa, fs, fe, fg⟩ := hf
  generalize decide ((lC D k).1 ≠ (lC D2 k2).1) = bb at *
  refine Xc.of rfl (by simp [lg_sl, Value.category]) ?_ (hp_up (by rw [hd]; simp [x_c1]))
  have hc : c1 (lv_args 0 [.ref 14, .int (iZ 0), .ref (a + 3), .int (iZ (k : Int)), .ref (b + 3), .int (iZ (k2 : Int)), .int (iZ p)]) := by simp [c1, lv_args, Value.category]
  have l0 : x_lk (lv_args 0 [.ref 14, .int (iZ 0), .ref (a + 3), .int (iZ (k : Int)), .ref (b + 3), .int (iZ (k2 : Int)), .int (iZ p)]) 0 = some (.ref 14) := rfl
  have l1 : x_lk (lv_args 0 [.ref 14, .int (iZ 0), .ref (a + 3), .int (iZ (k : Int)), .ref (b + 3), .int (iZ (k2 : Int)), .int (iZ p)]) 1 = some (.int (iZ 0)) := rfl
  have l2 : x_lk (lv_args 0 [.ref 14, .int (iZ 0), .ref (a + 3), .int (iZ (k : Int)), .ref (b + 3), .int (iZ (k2 : Int)), .int (iZ p)]) 2 = some (.ref (a + 3)) := rfl
  have l3 : x_lk (lv_args 0 [.ref 14, .int (iZ 0), .ref (a + 3), .int (iZ (k : Int)), .ref (b + 3), .int (iZ (k2 : Int)), .int (iZ p)]) 3 = some (.int (iZ (k : Int))) := rfl
  have l4 : x_lk (lv_args 0 [.ref 14, .int (iZ 0), .ref (a + 3), .int (iZ (k : Int)), .ref (b + 3), .int (iZ (k2 : Int)), .int (iZ p)]) 4 = some (.ref (b + 3)) := rfl
  have l5 : x_lk (lv_args 0 [.ref 14, .int (iZ 0), .ref (a + 3), .int (iZ (k : Int)), .ref (b + 3), .int (iZ (k2 : Int)), .int (iZ p)]) 5 = some (.int (iZ (k2 : Int))) := rfl
  have l6 : x_lk (lv_args 0 [.ref 14, .int (iZ 0), .ref (a + 3), .int (iZ (k : Int)), .ref (b + 3), .int (iZ (k2 : Int)), .int (iZ p)]) 6 = some (.int (iZ p)) := rfl
  generalize lv_args 0 [.ref 14, .int (iZ 0), .ref (a + 3), .int (iZ (k : Int)), .ref (b + 3), .int (iZ (k2 : Int)), .int (iZ p)] = lv at hc l0 l1 l2 l3 l4 l5 l6
  refine Gx.fin 60 (X1.and X2) (fun X mm => ?_)
  obtain ⟨mm1, mm2⟩ := mm
  have a11 := h3a a (by omega) (by omega)
  have t1 : (iZ 0).toInt = 0 := by decide
  cases bb with
  | true =>
    rw [bZ_t] at mm2 ⊢
    simp (disch := first | (refine c1_id ?_; assumption) | (refine c1_st rfl ?_; repeat (first | assumption | refine c1_st rfl ?_)) | omega) [nx_l, nx_r, nx_n, x_st, x_push, x_bin, x_div, x_un, x_dup, x_pop, x_dup2, x_goto, x_ifeq, x_ifne, x_iflt, x_ifge, x_ifgt, x_ifle, x_iceq, x_icne, x_iclt, x_icge, x_icgt, x_icle, x_ifnull, x_ifnonnull, x_ldi, x_lda, x_sti, x_sta, x_iinc, x_gf, x_pf, x_ald, x_ast, x_aln, x_len, x_cl_, x_cv, x_cs, x_rc, x_r0, x_isT, x_oi, x_rv, x_ri, x_ra, Value.category, t60_0, t60_1, t60_2, t60_3, t60_6, t60_9, t60_10, t60_11, t60_14, t60_15, t60_16, t60_19, t60_20, t60_21, t60_24, t60_25, t60_52, t60_53, t60_54, t60_55, t60_57, t60_59, t60_62, t60_63, t60_64, t60_65, t60_66, t60_68, t60_71, t60_72, t60_73, t60_74, t60_75, t60_78, t60_79, t60_80, t60_81, t60_82, t60_84, t60_86, t60_88, t60_91, lk_s, hp_get, hp_set, uH_at, uH_ne, uH_upd, uH_swap, iZ_add, iZ_sub, iZ_mul, iZ_neg, iZ_lt, iZ_le, iZ_eq, iZ_div, iZ_of, ix_Z, gZ_map, gZ_mapI, gZ_map', le_0, le_s, sZ_map, sZ_len, bZ_0, bZ_inj, bZ_t, bZ_f, nr_i, nr_0, nr_1, nr_b, ft_i, ft_b, ft_0, ft_1, zl_0, zl_1, l0, l1, l2, l3, l4, l5, l6, hd, fa, t1, mm1, mm2, dO, x_tsw, -List.filter_filter, -List.getElem?_map, -List.getD_eq_getElem?_getD]
  | false =>
    rw [bZ_f] at mm2 ⊢
    simp (disch := first | (refine c1_id ?_; assumption) | (refine c1_st rfl ?_; repeat (first | assumption | refine c1_st rfl ?_)) | omega) [nx_l, nx_r, nx_n, x_st, x_push, x_bin, x_div, x_un, x_dup, x_pop, x_dup2, x_goto, x_ifeq, x_ifne, x_iflt, x_ifge, x_ifgt, x_ifle, x_iceq, x_icne, x_iclt, x_icge, x_icgt, x_icle, x_ifnull, x_ifnonnull, x_ldi, x_lda, x_sti, x_sta, x_iinc, x_gf, x_pf, x_ald, x_ast, x_aln, x_len, x_cl_, x_cv, x_cs, x_rc, x_r0, x_isT, x_oi, x_rv, x_ri, x_ra, Value.category, t60_0, t60_1, t60_2, t60_3, t60_6, t60_9, t60_10, t60_11, t60_14, t60_15, t60_16, t60_19, t60_20, t60_21, t60_24, t60_25, t60_52, t60_53, t60_54, t60_55, t60_57, t60_59, t60_62, t60_63, t60_64, t60_65, t60_66, t60_68, t60_71, t60_72, t60_73, t60_74, t60_75, t60_78, t60_79, t60_80, t60_81, t60_82, t60_84, t60_86, t60_88, t60_91, lk_s, hp_get, hp_set, uH_at, uH_ne, uH_upd, uH_swap, iZ_add, iZ_sub, iZ_mul, iZ_neg, iZ_lt, iZ_le, iZ_eq, iZ_div, iZ_of, ix_Z, gZ_map, gZ_mapI, gZ_map', le_0, le_s, sZ_map, sZ_len, bZ_0, bZ_inj, bZ_t, bZ_f, nr_i, nr_0, nr_1, nr_b, ft_i, ft_b, ft_0, ft_1, zl_0, zl_1, l0, l1, l2, l3, l4, l5, l6, hd, fa, t1, mm1, mm2, dO, x_tsw, -List.filter_filter, -List.getElem?_map, -List.getD_eq_getElem?_getD]
theorem m60_1 (d : Nat) (hN : 53 ≤ N) (hd : w 11 = dO q1 q2 q3 q4 q5 q6) (k k2 : Nat) (hk : k < D.length) (hk2 : k2 < D.length) (p : Int) (h3a : ∀ j, a ≤ j → j ≤ a + 3 → j ≠ 11) (hf : fo w a S E B c (flt D).length o) (hfN : fN N a S E B) (hW : FW D S E B) (hg : gV D) (lE : D.length ≤ E.length) (lB : D.length ≤ B.length) (lS : (flt D).length ≤ S.length) (f9 : (flt D).length ≤ 40) :
    Xc (d + 4) 60 [.ref 14, .int (iZ 1), .ref (a + 3), .int (iZ (k : Int)), .ref (b + 3), .int (iZ (k2 : Int)), .int (iZ p)] (hp w N) (some (.int (iZ (bZ (decide ((k : Int) ≠ (k2 : Int) ∧ (lC D k).1 = (lC D k2).1))))), hp (uH w 11 (dO (stC D k) (stC D k2) (stC D k2) (-1) (-1) (-1))) N) := by
  have kE := hfN.2.2.1
  have na := hfN.1
  have X1 := m11 (d + 2) (k : Int) hf hfN (by omega) (by omega)
  rw [hW.st (by omega)] at X1
  obtain ⟨w1, hw1⟩ : ∃ w1, w1 = uH w 11 (dO q1 q2 (stC D k) (-1) (-1) (-1)) := ⟨_, rfl⟩
  have hd1 : w1 11 = dO q1 q2 (stC D k) (-1) (-1) (-1) := by rw [hw1, uH_at]
  have hf1 : fo w1 a S E B c (flt D).length o := by rw [hw1]; exact hf.up11 h3a _
  have X2 := m62 (w := w1) (d + 1) hd1 (by omega) k k2 hk hk2 h3a hf1 hfN hW hg lE lB
  rw [hw1, uH_upd] at X2
  obtain ⟨fa, fs, fe, fg⟩ := hf
  generalize decide ((k : Int) ≠ (k2 : Int) ∧ (lC D k).1 = (lC D k2).1) = bb at *
  refine Xc.of rfl (by simp [lg_sl, Value.category]) ?_ (hp_up (by rw [hd]; simp [x_c1]))
  have hc : c1 (lv_args 0 [.ref 14, .int (iZ 1), .ref (a + 3), .int (iZ (k : Int)), .ref (b + 3), .int (iZ (k2 : Int)), .int (iZ p)]) := by simp [c1, lv_args, Value.category]
  have l0 : x_lk (lv_args 0 [.ref 14, .int (iZ 1), .ref (a + 3), .int (iZ (k : Int)), .ref (b + 3), .int (iZ (k2 : Int)), .int (iZ p)]) 0 = some (.ref 14) := rfl
  have l1 : x_lk (lv_args 0 [.ref 14, .int (iZ 1), .ref (a + 3), .int (iZ (k : Int)), .ref (b + 3), .int (iZ (k2 : Int)), .int (iZ p)]) 1 = some (.int (iZ 1)) := rfl
  have l2 : x_lk (lv_args 0 [.ref 14, .int (iZ 1), .ref (a + 3), .int (iZ (k : Int)), .ref (b + 3), .int (iZ (k2 : Int)), .int (iZ p)]) 2 = some (.ref (a + 3)) := rfl
  have l3 : x_lk (lv_args 0 [.ref 14, .int (iZ 1), .ref (a + 3), .int (iZ (k : Int)), .ref (b + 3), .int (iZ (k2 : Int)), .int (iZ p)]) 3 = some (.int (iZ (k : Int))) := rfl
  have l4 : x_lk (lv_args 0 [.ref 14, .int (iZ 1), .ref (a + 3), .int (iZ (k : Int)), .ref (b + 3), .int (iZ (k2 : Int)), .int (iZ p)]) 4 = some (.ref (b + 3)) := rfl
  have l5 : x_lk (lv_args 0 [.ref 14, .int (iZ 1), .ref (a + 3), .int (iZ (k : Int)), .ref (b + 3), .int (iZ (k2 : Int)), .int (iZ p)]) 5 = some (.int (iZ (k2 : Int))) := rfl
  have l6 : x_lk (lv_args 0 [.ref 14, .int (iZ 1), .ref (a + 3), .int (iZ (k : Int)), .ref (b + 3), .int (iZ (k2 : Int)), .int (iZ p)]) 6 = some (.int (iZ p)) := rfl
  generalize lv_args 0 [.ref 14, .int (iZ 1), .ref (a + 3), .int (iZ (k : Int)), .ref (b + 3), .int (iZ (k2 : Int)), .int (iZ p)] = lv at hc l0 l1 l2 l3 l4 l5 l6
  refine Gx.fin 60 (X1.and X2) (fun X mm => ?_)
  obtain ⟨mm1, mm2⟩ := mm
  have a11 := h3a a (by omega) (by omega)
  have t1 : (iZ 1).toInt = 1 := by decide
  cases bb with
  | true =>
    rw [bZ_t] at mm2 ⊢
    simp (disch := first | (refine c1_id ?_; assumption) | (refine c1_st rfl ?_; repeat (first | assumption | refine c1_st rfl ?_)) | omega) [nx_l, nx_r, nx_n, x_st, x_push, x_bin, x_div, x_un, x_dup, x_pop, x_dup2, x_goto, x_ifeq, x_ifne, x_iflt, x_ifge, x_ifgt, x_ifle, x_iceq, x_icne, x_iclt, x_icge, x_icgt, x_icle, x_ifnull, x_ifnonnull, x_ldi, x_lda, x_sti, x_sta, x_iinc, x_gf, x_pf, x_ald, x_ast, x_aln, x_len, x_cl_, x_cv, x_cs, x_rc, x_r0, x_isT, x_oi, x_rv, x_ri, x_ra, Value.category, t60_0, t60_1, t60_2, t60_3, t60_6, t60_9, t60_10, t60_11, t60_14, t60_15, t60_16, t60_19, t60_20, t60_21, t60_24, t60_25, t60_52, t60_53, t60_54, t60_55, t60_57, t60_59, t60_62, t60_63, t60_64, t60_65, t60_66, t60_68, t60_71, t60_72, t60_73, t60_74, t60_75, t60_78, t60_79, t60_80, t60_81, t60_82, t60_84, t60_86, t60_88, t60_91, lk_s, hp_get, hp_set, uH_at, uH_ne, uH_upd, uH_swap, iZ_add, iZ_sub, iZ_mul, iZ_neg, iZ_lt, iZ_le, iZ_eq, iZ_div, iZ_of, ix_Z, gZ_map, gZ_mapI, gZ_map', le_0, le_s, sZ_map, sZ_len, bZ_0, bZ_inj, bZ_t, bZ_f, nr_i, nr_0, nr_1, nr_b, ft_i, ft_b, ft_0, ft_1, zl_0, zl_1, l0, l1, l2, l3, l4, l5, l6, hd, fa, t1, mm1, mm2, dO, x_tsw, -List.filter_filter, -List.getElem?_map, -List.getD_eq_getElem?_getD]
  | false =>
    rw [bZ_f] at mm2 ⊢
    simp (disch := first | (refine c1_id ?_; assumption) | (refine c1_st rfl ?_; repeat (first | assumption | refine c1_st rfl ?_)) | omega) [nx_l, nx_r, nx_n, x_st, x_push, x_bin, x_div, x_un, x_dup, x_pop, x_dup2, x_goto, x_ifeq, x_ifne, x_iflt, x_ifge, x_ifgt, x_ifle, x_iceq, x_icne, x_iclt, x_icge, x_icgt, x_icle, x_ifnull, x_ifnonnull, x_ldi, x_lda, x_sti, x_sta, x_iinc, x_gf, x_pf, x_ald, x_ast, x_aln, x_len, x_cl_, x_cv, x_cs, x_rc, x_r0, x_isT, x_oi, x_rv, x_ri, x_ra, Value.category, t60_0, t60_1, t60_2, t60_3, t60_6, t60_9, t60_10, t60_11, t60_14, t60_15, t60_16, t60_19, t60_20, t60_21, t60_24, t60_25, t60_52, t60_53, t60_54, t60_55, t60_57, t60_59, t60_62, t60_63, t60_64, t60_65, t60_66, t60_68, t60_71, t60_72, t60_73, t60_74, t60_75, t60_78, t60_79, t60_80, t60_81, t60_82, t60_84, t60_86, t60_88, t60_91, lk_s, hp_get, hp_set, uH_at, uH_ne, uH_upd, uH_swap, iZ_add, iZ_sub, iZ_mul, iZ_neg, iZ_lt, iZ_le, iZ_eq, iZ_div, iZ_of, ix_Z, gZ_map, gZ_mapI, gZ_map', le_0, le_s, sZ_map, sZ_len, bZ_0, bZ_inj, bZ_t, bZ_f, nr_i, nr_0, nr_1, nr_b, ft_i, ft_b, ft_0, ft_1, zl_0, zl_1, l0, l1, l2, l3, l4, l5, l6, hd, fa, t1, mm1, mm2, dO, x_tsw, -List.filter_filter, -List.getElem?_map, -List.getD_eq_getElem?_getD]
theorem m60_2 (d : Nat) (hN : 53 ≤ N) (hd : w 11 = dO q1 q2 q3 q4 q5 q6) (k : Nat) (hk : k < D.length) (k2 p : Int) (h3a : ∀ j, a ≤ j → j ≤ a + 3 → j ≠ 11) (hf : fo w a S E B c (flt D).length o) (hfN : fN N a S E B) (hW : FW D S E B) (hg : gV D) (lE : D.length ≤ E.length) (lB : D.length ≤ B.length) (lS : (flt D).length ≤ S.length) (f9 : (flt D).length ≤ 40) (hgr : w 16 = gO l wt) (hE : w 18 = cI 0 Ee) (e1 : Ee.length = 80) (l0_ : 0 ≤ l) (l1_ : l ≤ 80) (hne : 0 < (lC D k).2.length) :
    Xc (d + 4) 60 [.ref 14, .int (iZ 2), .ref (a + 3), .int (iZ (k : Int)), .ref (b + 3), .int (iZ k2), .int (iZ p)] (hp w N) (some (.int (iZ (bZ (decide ((lC D k).2.getD 0 0 = 99 ∧ (lC D k).1 = 1))))), hp (uH w 11 (dO (stC D k + 1) (endZ Ee l (stC D k + 1)) (stC D k) (-1) (-1) (-1))) N) := by
  have kE := hfN.2.2.1
  have na := hfN.1
  have X1 := m11 (d + 2) (k : Int) hf hfN (by omega) (by omega)
  rw [hW.st (by omega)] at X1
  obtain ⟨w1, hw1⟩ : ∃ w1, w1 = uH w 11 (dO q1 q2 (stC D k) (-1) (-1) (-1)) := ⟨_, rfl⟩
  have hd1 : w1 11 = dO q1 q2 (stC D k) (-1) (-1) (-1) := by rw [hw1, uH_at]
  have hf1 : fo w1 a S E B c (flt D).length o := by rw [hw1]; exact hf.up11 h3a _
  have X2 := m63 (w := w1) d hN hd1 k hk h3a hf1 hfN hW hg lE lB lS f9 hne (by rw [hw1, uH_ne (by decide)]; exact hgr) (by rw [hw1, uH_ne (by decide)]; exact hE) e1 l0_ l1_
  rw [hw1, uH_upd] at X2
  obtain ⟨fa, fs, fe, fg⟩ := hf
  generalize decide ((lC D k).2.getD 0 0 = 99 ∧ (lC D k).1 = 1) = bb at *
  refine Xc.of rfl (by simp [lg_sl, Value.category]) ?_ (hp_up (by rw [hd]; simp [x_c1]))
  have hc : c1 (lv_args 0 [.ref 14, .int (iZ 2), .ref (a + 3), .int (iZ (k : Int)), .ref (b + 3), .int (iZ k2), .int (iZ p)]) := by simp [c1, lv_args, Value.category]
  have l0 : x_lk (lv_args 0 [.ref 14, .int (iZ 2), .ref (a + 3), .int (iZ (k : Int)), .ref (b + 3), .int (iZ k2), .int (iZ p)]) 0 = some (.ref 14) := rfl
  have l1 : x_lk (lv_args 0 [.ref 14, .int (iZ 2), .ref (a + 3), .int (iZ (k : Int)), .ref (b + 3), .int (iZ k2), .int (iZ p)]) 1 = some (.int (iZ 2)) := rfl
  have l2 : x_lk (lv_args 0 [.ref 14, .int (iZ 2), .ref (a + 3), .int (iZ (k : Int)), .ref (b + 3), .int (iZ k2), .int (iZ p)]) 2 = some (.ref (a + 3)) := rfl
  have l3 : x_lk (lv_args 0 [.ref 14, .int (iZ 2), .ref (a + 3), .int (iZ (k : Int)), .ref (b + 3), .int (iZ k2), .int (iZ p)]) 3 = some (.int (iZ (k : Int))) := rfl
  have l4 : x_lk (lv_args 0 [.ref 14, .int (iZ 2), .ref (a + 3), .int (iZ (k : Int)), .ref (b + 3), .int (iZ k2), .int (iZ p)]) 4 = some (.ref (b + 3)) := rfl
  have l5 : x_lk (lv_args 0 [.ref 14, .int (iZ 2), .ref (a + 3), .int (iZ (k : Int)), .ref (b + 3), .int (iZ k2), .int (iZ p)]) 5 = some (.int (iZ k2)) := rfl
  have l6 : x_lk (lv_args 0 [.ref 14, .int (iZ 2), .ref (a + 3), .int (iZ (k : Int)), .ref (b + 3), .int (iZ k2), .int (iZ p)]) 6 = some (.int (iZ p)) := rfl
  generalize lv_args 0 [.ref 14, .int (iZ 2), .ref (a + 3), .int (iZ (k : Int)), .ref (b + 3), .int (iZ k2), .int (iZ p)] = lv at hc l0 l1 l2 l3 l4 l5 l6
  refine Gx.fin 60 (X1.and X2) (fun X mm => ?_)
  obtain ⟨mm1, mm2⟩ := mm
  have a11 := h3a a (by omega) (by omega)
  generalize endZ Ee l (stC D k + 1) = en at *
  have t1 : (iZ 2).toInt = 2 := by decide
  cases bb with
  | true =>
    rw [bZ_t] at mm2 ⊢
    simp (disch := first | (refine c1_id ?_; assumption) | (refine c1_st rfl ?_; repeat (first | assumption | refine c1_st rfl ?_)) | omega) [nx_l, nx_r, nx_n, x_st, x_push, x_bin, x_div, x_un, x_dup, x_pop, x_dup2, x_goto, x_ifeq, x_ifne, x_iflt, x_ifge, x_ifgt, x_ifle, x_iceq, x_icne, x_iclt, x_icge, x_icgt, x_icle, x_ifnull, x_ifnonnull, x_ldi, x_lda, x_sti, x_sta, x_iinc, x_gf, x_pf, x_ald, x_ast, x_aln, x_len, x_cl_, x_cv, x_cs, x_rc, x_r0, x_isT, x_oi, x_rv, x_ri, x_ra, Value.category, t60_0, t60_1, t60_2, t60_3, t60_6, t60_9, t60_10, t60_11, t60_14, t60_15, t60_16, t60_19, t60_20, t60_21, t60_24, t60_25, t60_52, t60_53, t60_54, t60_55, t60_57, t60_59, t60_62, t60_63, t60_64, t60_65, t60_66, t60_68, t60_71, t60_72, t60_73, t60_74, t60_75, t60_78, t60_79, t60_80, t60_81, t60_82, t60_84, t60_86, t60_88, t60_91, lk_s, hp_get, hp_set, uH_at, uH_ne, uH_upd, uH_swap, iZ_add, iZ_sub, iZ_mul, iZ_neg, iZ_lt, iZ_le, iZ_eq, iZ_div, iZ_of, ix_Z, gZ_map, gZ_mapI, gZ_map', le_0, le_s, sZ_map, sZ_len, bZ_0, bZ_inj, bZ_t, bZ_f, nr_i, nr_0, nr_1, nr_b, ft_i, ft_b, ft_0, ft_1, zl_0, zl_1, l0, l1, l2, l3, l4, l5, l6, hd, fa, t1, mm1, mm2, dO, x_tsw, -List.filter_filter, -List.getElem?_map, -List.getD_eq_getElem?_getD]
  | false =>
    rw [bZ_f] at mm2 ⊢
    simp (disch := first | (refine c1_id ?_; assumption) | (refine c1_st rfl ?_; repeat (first | assumption | refine c1_st rfl ?_)) | omega) [nx_l, nx_r, nx_n, x_st, x_push, x_bin, x_div, x_un, x_dup, x_pop, x_dup2, x_goto, x_ifeq, x_ifne, x_iflt, x_ifge, x_ifgt, x_ifle, x_iceq, x_icne, x_iclt, x_icge, x_icgt, x_icle, x_ifnull, x_ifnonnull, x_ldi, x_lda, x_sti, x_sta, x_iinc, x_gf, x_pf, x_ald, x_ast, x_aln, x_len, x_cl_, x_cv, x_cs, x_rc, x_r0, x_isT, x_oi, x_rv, x_ri, x_ra, Value.category, t60_0, t60_1, t60_2, t60_3, t60_6, t60_9, t60_10, t60_11, t60_14, t60_15, t60_16, t60_19, t60_20, t60_21, t60_24, t60_25, t60_52, t60_53, t60_54, t60_55, t60_57, t60_59, t60_62, t60_63, t60_64, t60_65, t60_66, t60_68, t60_71, t60_72, t60_73, t60_74, t60_75, t60_78, t60_79, t60_80, t60_81, t60_82, t60_84, t60_86, t60_88, t60_91, lk_s, hp_get, hp_set, uH_at, uH_ne, uH_upd, uH_swap, iZ_add, iZ_sub, iZ_mul, iZ_neg, iZ_lt, iZ_le, iZ_eq, iZ_div, iZ_of, ix_Z, gZ_map, gZ_mapI, gZ_map', le_0, le_s, sZ_map, sZ_len, bZ_0, bZ_inj, bZ_t, bZ_f, nr_i, nr_0, nr_1, nr_b, ft_i, ft_b, ft_0, ft_1, zl_0, zl_1, l0, l1, l2, l3, l4, l5, l6, hd, fa, t1, mm1, mm2, dO, x_tsw, -List.filter_filter, -List.getElem?_map, -List.getD_eq_getElem?_getD]
theorem m60_3 (d : Nat) (hN : 53 ≤ N) (hd : w 11 = dO q1 q2 q3 q4 q5 q6) (k k2 : Nat) (hk : k < D.length) (hk2 : k2 < D2.length) (p : Int) (p0 : 0 ≤ p) (p1 : plQ p < 100) (p2 : p < 2147483648) (h3a : ∀ j, a ≤ j → j ≤ a + 3 → j ≠ 11) (hf : fo w a S E B c (flt D).length o) (hfN : fN N a S E B) (hW : FW D S E B) (hg : gV D) (lE : D.length ≤ E.length) (lB : D.length ≤ B.length) (lS : (flt D).length ≤ S.length) (f9 : (flt D).length ≤ 40) (h3b : ∀ j, b ≤ j → j ≤ b + 3 → j ≠ 11) (hf2 : fo w b S2 E2 B2 c2 (flt D2).length o2) (hfN2 : fN N b S2 E2 B2) (hW2 : FW D2 S2 E2 B2) (hg2 : gV D2) (lE2 : D2.length ≤ E2.length) (lB2 : D2.length ≤ B2.length) (f92 : (flt D2).length ≤ 40) (hgr : w 16 = gO l wt) (hE : w 18 = cI 0 Ee) (e1 : Ee.length = 80) (l0_ : 0 ≤ l) (l1_ : l ≤ 80) (hne : 0 < (lC D k).2.length) :
    Xc (d + 4) 60 [.ref 14, .int (iZ 3), .ref (a + 3), .int (iZ (k : Int)), .ref (b + 3), .int (iZ (k2 : Int)), .int (iZ p)] (hp w N) (some (.int (iZ (bZ (decide ((lC D k).2.getD 0 0 = 99 ∧ (lC D k).1 = 0))))), hp (uH w 11 (dO (if 100 ≤ p then endZ Ee l (stC D k + 1) else stC D k + 1) ((flt D).length + stC D2 k2 + 1 + plQ p) (stC D k) (-1) ((flt D).length + stC D2 k2 + 1 + plQ p) (if 100 ≤ p then stC D k + 1 else endZ Ee l (stC D k + 1)))) N) := by
  have kE := hfN.2.2.1
  have na := hfN.1
  have X1 := m11 (d + 2) (k : Int) hf hfN (by omega) (by omega)
  rw [hW.st (by omega)] at X1
  obtain ⟨w1, hw1⟩ : ∃ w1, w1 = uH w 11 (dO q1 q2 (stC D k) (-1) (-1) (-1)) := ⟨_, rfl⟩
  have hd1 : w1 11 = dO q1 q2 (stC D k) (-1) (-1) (-1) := by rw [hw1, uH_at]
  have hf1 : fo w1 a S E B c (flt D).length o := by rw [hw1]; exact hf.up11 h3a _
  have hf21 : fo w1 b S2 E2 B2 c2 (flt D2).length o2 := by rw [hw1]; exact hf2.up11 h3b _
  have X2 := m64 (w := w1) d hN hd1 k k2 hk hk2 p p0 p1 p2 h3a h3b hf1 hfN hW hg lE lB lS f9 hne (by rw [hw1, uH_ne (by decide)]; exact hgr) (by rw [hw1, uH_ne (by decide)]; exact hE) e1 l0_ l1_ hf21 hfN2 hW2 lE2 f92
  rw [hw1, uH_upd] at X2
  obtain ⟨fa, fs, fe, fg⟩ := hf
  generalize decide ((lC D k).2.getD 0 0 = 99 ∧ (lC D k).1 = 0) = bb at *
  refine Xc.of rfl (by simp [lg_sl, Value.category]) ?_ (hp_up (by rw [hd]; simp [x_c1]))
  have hc : c1 (lv_args 0 [.ref 14, .int (iZ 3), .ref (a + 3), .int (iZ (k : Int)), .ref (b + 3), .int (iZ (k2 : Int)), .int (iZ p)]) := by simp [c1, lv_args, Value.category]
  have l0 : x_lk (lv_args 0 [.ref 14, .int (iZ 3), .ref (a + 3), .int (iZ (k : Int)), .ref (b + 3), .int (iZ (k2 : Int)), .int (iZ p)]) 0 = some (.ref 14) := rfl
  have l1 : x_lk (lv_args 0 [.ref 14, .int (iZ 3), .ref (a + 3), .int (iZ (k : Int)), .ref (b + 3), .int (iZ (k2 : Int)), .int (iZ p)]) 1 = some (.int (iZ 3)) := rfl
  have l2 : x_lk (lv_args 0 [.ref 14, .int (iZ 3), .ref (a + 3), .int (iZ (k : Int)), .ref (b + 3), .int (iZ (k2 : Int)), .int (iZ p)]) 2 = some (.ref (a + 3)) := rfl
  have l3 : x_lk (lv_args 0 [.ref 14, .int (iZ 3), .ref (a + 3), .int (iZ (k : Int)), .ref (b + 3), .int (iZ (k2 : Int)), .int (iZ p)]) 3 = some (.int (iZ (k : Int))) := rfl
  have l4 : x_lk (lv_args 0 [.ref 14, .int (iZ 3), .ref (a + 3), .int (iZ (k : Int)), .ref (b + 3), .int (iZ (k2 : Int)), .int (iZ p)]) 4 = some (.ref (b + 3)) := rfl
  have l5 : x_lk (lv_args 0 [.ref 14, .int (iZ 3), .ref (a + 3), .int (iZ (k : Int)), .ref (b + 3), .int (iZ (k2 : Int)), .int (iZ p)]) 5 = some (.int (iZ (k2 : Int))) := rfl
  have l6 : x_lk (lv_args 0 [.ref 14, .int (iZ 3), .ref (a + 3), .int (iZ (k : Int)), .ref (b + 3), .int (iZ (k2 : Int)), .int (iZ p)]) 6 = some (.int (iZ p)) := rfl
  generalize lv_args 0 [.ref 14, .int (iZ 3), .ref (a + 3), .int (iZ (k : Int)), .ref (b + 3), .int (iZ (k2 : Int)), .int (iZ p)] = lv at hc l0 l1 l2 l3 l4 l5 l6
  refine Gx.fin 60 (X1.and X2) (fun X mm => ?_)
  obtain ⟨mm1, mm2⟩ := mm
  have a11 := h3a a (by omega) (by omega)
  generalize (if 100 ≤ p then endZ Ee l (stC D k + 1) else (stC D k : Int) + 1) = en at *
  generalize (if 100 ≤ p then (stC D k : Int) + 1 else endZ Ee l (stC D k + 1)) = en2 at *
  have t1 : (iZ 3).toInt = 3 := by decide
  cases bb with
  | true =>
    rw [bZ_t] at mm2 ⊢
    simp (disch := first | (refine c1_id ?_; assumption) | (refine c1_st rfl ?_; repeat (first | assumption | refine c1_st rfl ?_)) | omega) [nx_l, nx_r, nx_n, x_st, x_push, x_bin, x_div, x_un, x_dup, x_pop, x_dup2, x_goto, x_ifeq, x_ifne, x_iflt, x_ifge, x_ifgt, x_ifle, x_iceq, x_icne, x_iclt, x_icge, x_icgt, x_icle, x_ifnull, x_ifnonnull, x_ldi, x_lda, x_sti, x_sta, x_iinc, x_gf, x_pf, x_ald, x_ast, x_aln, x_len, x_cl_, x_cv, x_cs, x_rc, x_r0, x_isT, x_oi, x_rv, x_ri, x_ra, Value.category, t60_0, t60_1, t60_2, t60_3, t60_6, t60_9, t60_10, t60_11, t60_14, t60_15, t60_16, t60_19, t60_20, t60_21, t60_24, t60_25, t60_52, t60_53, t60_54, t60_55, t60_57, t60_59, t60_62, t60_63, t60_64, t60_65, t60_66, t60_68, t60_71, t60_72, t60_73, t60_74, t60_75, t60_78, t60_79, t60_80, t60_81, t60_82, t60_84, t60_86, t60_88, t60_91, lk_s, hp_get, hp_set, uH_at, uH_ne, uH_upd, uH_swap, iZ_add, iZ_sub, iZ_mul, iZ_neg, iZ_lt, iZ_le, iZ_eq, iZ_div, iZ_of, ix_Z, gZ_map, gZ_mapI, gZ_map', le_0, le_s, sZ_map, sZ_len, bZ_0, bZ_inj, bZ_t, bZ_f, nr_i, nr_0, nr_1, nr_b, ft_i, ft_b, ft_0, ft_1, zl_0, zl_1, l0, l1, l2, l3, l4, l5, l6, hd, fa, t1, mm1, mm2, dO, x_tsw, -List.filter_filter, -List.getElem?_map, -List.getD_eq_getElem?_getD]
  | false =>
    rw [bZ_f] at mm2 ⊢
    simp (disch := first | (refine c1_id ?_; assumption) | (refine c1_st rfl ?_; repeat (first | assumption | refine c1_st rfl ?_)) | omega) [nx_l, nx_r, nx_n, x_st, x_push, x_bin, x_div, x_un, x_dup, x_pop, x_dup2, x_goto, x_ifeq, x_ifne, x_iflt, x_ifge, x_ifgt, x_ifle, x_iceq, x_icne, x_iclt, x_icge, x_icgt, x_icle, x_ifnull, x_ifnonnull, x_ldi, x_lda, x_sti, x_sta, x_iinc, x_gf, x_pf, x_ald, x_ast, x_aln, x_len, x_cl_, x_cv, x_cs, x_rc, x_r0, x_isT, x_oi, x_rv, x_ri, x_ra, Value.category, t60_0, t60_1, t60_2, t60_3, t60_6, t60_9, t60_10, t60_11, t60_14, t60_15, t60_16, t60_19, t60_20, t60_21, t60_24, t60_25, t60_52, t60_53, t60_54, t60_55, t60_57, t60_59, t60_62, t60_63, t60_64, t60_65, t60_66, t60_68, t60_71, t60_72, t60_73, t60_74, t60_75, t60_78, t60_79, t60_80, t60_81, t60_82, t60_84, t60_86, t60_88, t60_91, lk_s, hp_get, hp_set, uH_at, uH_ne, uH_upd, uH_swap, iZ_add, iZ_sub, iZ_mul, iZ_neg, iZ_lt, iZ_le, iZ_eq, iZ_div, iZ_of, ix_Z, gZ_map, gZ_mapI, gZ_map', le_0, le_s, sZ_map, sZ_len, bZ_0, bZ_inj, bZ_t, bZ_f, nr_i, nr_0, nr_1, nr_b, ft_i, ft_b, ft_0, ft_1, zl_0, zl_1, l0, l1, l2, l3, l4, l5, l6, hd, fa, t1, mm1, mm2, dO, x_tsw, -List.filter_filter, -List.getElem?_map, -List.getD_eq_getElem?_getD]
end DC
