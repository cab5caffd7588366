/-! the reference: loops that copy rows -/
theorem f122_0 : x_fetch q_k122 0 = x_lda 1 0 := rfl
theorem t122_0 (C : xF) (s n : Nat) (z : xS) : x_to q_k122 C s (n + 1) 0 z = x_nx q_k122 C s n ((x_lda 1 0) C z) := x_to_at f122_0 C s n z
theorem f122_1 : x_fetch q_k122 1 = x_cv 4 106 1 8 := rfl
theorem t122_1 (C : xF) (s n : Nat) (z : xS) : x_to q_k122 C s (n + 1) 1 z = x_nx q_k122 C s n ((x_cv 4 106 1 8) C z) := x_to_at f122_1 C s n z
theorem f122_4 : x_fetch q_k122 4 = x_lda 5 0 := rfl
theorem t122_4 (C : xF) (s n : Nat) (z : xS) : x_to q_k122 C s (n + 1) 4 z = x_nx q_k122 C s n ((x_lda 5 0) C z) := x_to_at f122_4 C s n z
theorem f122_5 : x_fetch q_k122 5 = x_lda 6 0 := rfl
theorem t122_5 (C : xF) (s n : Nat) (z : xS) : x_to q_k122 C s (n + 1) 5 z = x_nx q_k122 C s n ((x_lda 6 0) C z) := x_to_at f122_5 C s n z
theorem f122_6 : x_fetch q_k122 6 = x_gf 9 8 22 := rfl
theorem t122_6 (C : xF) (s n : Nat) (z : xS) : x_to q_k122 C s (n + 1) 6 z = x_nx q_k122 C s n ((x_gf 9 8 22) C z) := x_to_at f122_6 C s n z
theorem f122_9 : x_fetch q_k122 9 = x_pf 12 8 28 (.int) := rfl
theorem t122_9 (C : xF) (s n : Nat) (z : xS) : x_to q_k122 C s (n + 1) 9 z = x_nx q_k122 C s n ((x_pf 12 8 28 (.int)) C z) := x_to_at f122_9 C s n z
theorem f122_12 : x_fetch q_k122 12 = x_st (x_push 13 (.int (0))) := rfl
theorem t122_12 (C : xF) (s n : Nat) (z : xS) : x_to q_k122 C s (n + 1) 12 z = x_nx q_k122 C s n ((x_st (x_push 13 (.int (0)))) C z) := x_to_at f122_12 C s n z
theorem f122_13 : x_fetch q_k122 13 = x_sti 14 1 := rfl
theorem t122_13 (C : xF) (s n : Nat) (z : xS) : x_to q_k122 C s (n + 1) 13 z = x_nx q_k122 C s n ((x_sti 14 1) C z) := x_to_at f122_13 C s n z
theorem f122_14 : x_fetch q_k122 14 = x_ldi 15 1 := rfl
theorem t122_14 (C : xF) (s n : Nat) (z : xS) : x_to q_k122 C s (n + 1) 14 z = x_nx q_k122 C s n ((x_ldi 15 1) C z) := x_to_at f122_14 C s n z
theorem f122_15 : x_fetch q_k122 15 = x_lda 16 0 := rfl
theorem t122_15 (C : xF) (s n : Nat) (z : xS) : x_to q_k122 C s (n + 1) 15 z = x_nx q_k122 C s n ((x_lda 16 0) C z) := x_to_at f122_15 C s n z
theorem f122_16 : x_fetch q_k122 16 = x_gf 19 8 21 := rfl
theorem t122_16 (C : xF) (s n : Nat) (z : xS) : x_to q_k122 C s (n + 1) 16 z = x_nx q_k122 C s n ((x_gf 19 8 21) C z) := x_to_at f122_16 C s n z
theorem f122_19 : x_fetch q_k122 19 = x_st (x_icge 40 22) := rfl
theorem t122_19 (C : xF) (s n : Nat) (z : xS) : x_to q_k122 C s (n + 1) 19 z = x_nx q_k122 C s n ((x_st (x_icge 40 22)) C z) := x_to_at f122_19 C s n z
theorem f122_22 : x_fetch q_k122 22 = x_lda 23 0 := rfl
theorem t122_22 (C : xF) (s n : Nat) (z : xS) : x_to q_k122 C s (n + 1) 22 z = x_nx q_k122 C s n ((x_lda 23 0) C z) := x_to_at f122_22 C s n z
theorem f122_23 : x_fetch q_k122 23 = x_gf 26 8 25 := rfl
theorem t122_23 (C : xF) (s n : Nat) (z : xS) : x_to q_k122 C s (n + 1) 23 z = x_nx q_k122 C s n ((x_gf 26 8 25) C z) := x_to_at f122_23 C s n z
theorem f122_26 : x_fetch q_k122 26 = x_ldi 27 1 := rfl
theorem t122_26 (C : xF) (s n : Nat) (z : xS) : x_to q_k122 C s (n + 1) 26 z = x_nx q_k122 C s n ((x_ldi 27 1) C z) := x_to_at f122_26 C s n z
theorem f122_27 : x_fetch q_k122 27 = x_lda 28 0 := rfl
theorem t122_27 (C : xF) (s n : Nat) (z : xS) : x_to q_k122 C s (n + 1) 27 z = x_nx q_k122 C s n ((x_lda 28 0) C z) := x_to_at f122_27 C s n z
theorem f122_28 : x_fetch q_k122 28 = x_gf 31 8 17 := rfl
theorem t122_28 (C : xF) (s n : Nat) (z : xS) : x_to q_k122 C s (n + 1) 28 z = x_nx q_k122 C s n ((x_gf 31 8 17) C z) := x_to_at f122_28 C s n z
theorem f122_31 : x_fetch q_k122 31 = x_ldi 32 1 := rfl
theorem t122_31 (C : xF) (s n : Nat) (z : xS) : x_to q_k122 C s (n + 1) 31 z = x_nx q_k122 C s n ((x_ldi 32 1) C z) := x_to_at f122_31 C s n z
theorem f122_32 : x_fetch q_k122 32 = x_ald 33 0 := rfl
theorem t122_32 (C : xF) (s n : Nat) (z : xS) : x_to q_k122 C s (n + 1) 32 z = x_nx q_k122 C s n ((x_ald 33 0) C z) := x_to_at f122_32 C s n z
theorem f122_33 : x_fetch q_k122 33 = x_ast 34 0 (fun x => x) := rfl
theorem t122_33 (C : xF) (s n : Nat) (z : xS) : x_to q_k122 C s (n + 1) 33 z = x_nx q_k122 C s n ((x_ast 34 0 (fun x => x)) C z) := x_to_at f122_33 C s n z
theorem f122_34 : x_fetch q_k122 34 = x_iinc 37 1 (1) := rfl
theorem t122_34 (C : xF) (s n : Nat) (z : xS) : x_to q_k122 C s (n + 1) 34 z = x_nx q_k122 C s n ((x_iinc 37 1 (1)) C z) := x_to_at f122_34 C s n z
theorem f122_37 : x_fetch q_k122 37 = x_st (x_goto 14) := rfl
theorem t122_37 (C : xF) (s n : Nat) (z : xS) : x_to q_k122 C s (n + 1) 37 z = x_nx q_k122 C s n ((x_st (x_goto 14)) C z) := x_to_at f122_37 C s n z
theorem f122_40 : x_fetch q_k122 40 = x_st (x_push 41 (.int (0))) := rfl
theorem t122_40 (C : xF) (s n : Nat) (z : xS) : x_to q_k122 C s (n + 1) 40 z = x_nx q_k122 C s n ((x_st (x_push 41 (.int (0)))) C z) := x_to_at f122_40 C s n z
theorem f122_41 : x_fetch q_k122 41 = x_sti 42 1 := rfl
theorem t122_41 (C : xF) (s n : Nat) (z : xS) : x_to q_k122 C s (n + 1) 41 z = x_nx q_k122 C s n ((x_sti 42 1) C z) := x_to_at f122_41 C s n z
theorem f122_42 : x_fetch q_k122 42 = x_ldi 43 1 := rfl
theorem t122_42 (C : xF) (s n : Nat) (z : xS) : x_to q_k122 C s (n + 1) 42 z = x_nx q_k122 C s n ((x_ldi 43 1) C z) := x_to_at f122_42 C s n z
theorem f122_43 : x_fetch q_k122 43 = x_lda 44 0 := rfl
theorem t122_43 (C : xF) (s n : Nat) (z : xS) : x_to q_k122 C s (n + 1) 43 z = x_nx q_k122 C s n ((x_lda 44 0) C z) := x_to_at f122_43 C s n z
theorem f122_44 : x_fetch q_k122 44 = x_gf 47 8 22 := rfl
theorem t122_44 (C : xF) (s n : Nat) (z : xS) : x_to q_k122 C s (n + 1) 44 z = x_nx q_k122 C s n ((x_gf 47 8 22) C z) := x_to_at f122_44 C s n z
theorem f122_47 : x_fetch q_k122 47 = x_st (x_icgt 68 50) := rfl
theorem t122_47 (C : xF) (s n : Nat) (z : xS) : x_to q_k122 C s (n + 1) 47 z = x_nx q_k122 C s n ((x_st (x_icgt 68 50)) C z) := x_to_at f122_47 C s n z
theorem f122_50 : x_fetch q_k122 50 = x_lda 51 0 := rfl
theorem t122_50 (C : xF) (s n : Nat) (z : xS) : x_to q_k122 C s (n + 1) 50 z = x_nx q_k122 C s n ((x_lda 51 0) C z) := x_to_at f122_50 C s n z
theorem f122_51 : x_fetch q_k122 51 = x_gf 54 8 26 := rfl
theorem t122_51 (C : xF) (s n : Nat) (z : xS) : x_to q_k122 C s (n + 1) 51 z = x_nx q_k122 C s n ((x_gf 54 8 26) C z) := x_to_at f122_51 C s n z
theorem f122_54 : x_fetch q_k122 54 = x_ldi 55 1 := rfl
theorem t122_54 (C : xF) (s n : Nat) (z : xS) : x_to q_k122 C s (n + 1) 54 z = x_nx q_k122 C s n ((x_ldi 55 1) C z) := x_to_at f122_54 C s n z
theorem f122_55 : x_fetch q_k122 55 = x_lda 56 0 := rfl
theorem t122_55 (C : xF) (s n : Nat) (z : xS) : x_to q_k122 C s (n + 1) 55 z = x_nx q_k122 C s n ((x_lda 56 0) C z) := x_to_at f122_55 C s n z
theorem f122_56 : x_fetch q_k122 56 = x_gf 59 8 18 := rfl
theorem t122_56 (C : xF) (s n : Nat) (z : xS) : x_to q_k122 C s (n + 1) 56 z = x_nx q_k122 C s n ((x_gf 59 8 18) C z) := x_to_at f122_56 C s n z
theorem f122_59 : x_fetch q_k122 59 = x_ldi 60 1 := rfl
theorem t122_59 (C : xF) (s n : Nat) (z : xS) : x_to q_k122 C s (n + 1) 59 z = x_nx q_k122 C s n ((x_ldi 60 1) C z) := x_to_at f122_59 C s n z
theorem f122_60 : x_fetch q_k122 60 = x_ald 61 0 := rfl
theorem t122_60 (C : xF) (s n : Nat) (z : xS) : x_to q_k122 C s (n + 1) 60 z = x_nx q_k122 C s n ((x_ald 61 0) C z) := x_to_at f122_60 C s n z
theorem f122_61 : x_fetch q_k122 61 = x_ast 62 0 (fun x => x) := rfl
theorem t122_61 (C : xF) (s n : Nat) (z : xS) : x_to q_k122 C s (n + 1) 61 z = x_nx q_k122 C s n ((x_ast 62 0 (fun x => x)) C z) := x_to_at f122_61 C s n z
theorem f122_62 : x_fetch q_k122 62 = x_iinc 65 1 (1) := rfl
theorem t122_62 (C : xF) (s n : Nat) (z : xS) : x_to q_k122 C s (n + 1) 62 z = x_nx q_k122 C s n ((x_iinc 65 1 (1)) C z) := x_to_at f122_62 C s n z
theorem f122_65 : x_fetch q_k122 65 = x_st (x_goto 42) := rfl
theorem t122_65 (C : xF) (s n : Nat) (z : xS) : x_to q_k122 C s (n + 1) 65 z = x_nx q_k122 C s n ((x_st (x_goto 42)) C z) := x_to_at f122_65 C s n z
theorem f122_68 : x_fetch q_k122 68 = x_st (x_push 69 (.int (0))) := rfl
theorem t122_68 (C : xF) (s n : Nat) (z : xS) : x_to q_k122 C s (n + 1) 68 z = x_nx q_k122 C s n ((x_st (x_push 69 (.int (0)))) C z) := x_to_at f122_68 C s n z
theorem f122_69 : x_fetch q_k122 69 = x_sti 70 1 := rfl
theorem t122_69 (C : xF) (s n : Nat) (z : xS) : x_to q_k122 C s (n + 1) 69 z = x_nx q_k122 C s n ((x_sti 70 1) C z) := x_to_at f122_69 C s n z
theorem f122_70 : x_fetch q_k122 70 = x_ldi 71 1 := rfl
theorem t122_70 (C : xF) (s n : Nat) (z : xS) : x_to q_k122 C s (n + 1) 70 z = x_nx q_k122 C s n ((x_ldi 71 1) C z) := x_to_at f122_70 C s n z
theorem f122_71 : x_fetch q_k122 71 = x_lda 72 0 := rfl
theorem t122_71 (C : xF) (s n : Nat) (z : xS) : x_to q_k122 C s (n + 1) 71 z = x_nx q_k122 C s n ((x_lda 72 0) C z) := x_to_at f122_71 C s n z
theorem f122_72 : x_fetch q_k122 72 = x_gf 75 8 22 := rfl
theorem t122_72 (C : xF) (s n : Nat) (z : xS) : x_to q_k122 C s (n + 1) 72 z = x_nx q_k122 C s n ((x_gf 75 8 22) C z) := x_to_at f122_72 C s n z
theorem f122_75 : x_fetch q_k122 75 = x_st (x_icge 96 78) := rfl
theorem t122_75 (C : xF) (s n : Nat) (z : xS) : x_to q_k122 C s (n + 1) 75 z = x_nx q_k122 C s n ((x_st (x_icge 96 78)) C z) := x_to_at f122_75 C s n z
theorem f122_78 : x_fetch q_k122 78 = x_lda 79 0 := rfl
theorem t122_78 (C : xF) (s n : Nat) (z : xS) : x_to q_k122 C s (n + 1) 78 z = x_nx q_k122 C s n ((x_lda 79 0) C z) := x_to_at f122_78 C s n z
theorem f122_79 : x_fetch q_k122 79 = x_gf 82 8 27 := rfl
theorem t122_79 (C : xF) (s n : Nat) (z : xS) : x_to q_k122 C s (n + 1) 79 z = x_nx q_k122 C s n ((x_gf 82 8 27) C z) := x_to_at f122_79 C s n z
theorem f122_82 : x_fetch q_k122 82 = x_ldi 83 1 := rfl
theorem t122_82 (C : xF) (s n : Nat) (z : xS) : x_to q_k122 C s (n + 1) 82 z = x_nx q_k122 C s n ((x_ldi 83 1) C z) := x_to_at f122_82 C s n z
theorem f122_83 : x_fetch q_k122 83 = x_lda 84 0 := rfl
theorem t122_83 (C : xF) (s n : Nat) (z : xS) : x_to q_k122 C s (n + 1) 83 z = x_nx q_k122 C s n ((x_lda 84 0) C z) := x_to_at f122_83 C s n z
theorem f122_84 : x_fetch q_k122 84 = x_gf 87 8 20 := rfl
theorem t122_84 (C : xF) (s n : Nat) (z : xS) : x_to q_k122 C s (n + 1) 84 z = x_nx q_k122 C s n ((x_gf 87 8 20) C z) := x_to_at f122_84 C s n z
theorem f122_87 : x_fetch q_k122 87 = x_ldi 88 1 := rfl
theorem t122_87 (C : xF) (s n : Nat) (z : xS) : x_to q_k122 C s (n + 1) 87 z = x_nx q_k122 C s n ((x_ldi 88 1) C z) := x_to_at f122_87 C s n z
theorem f122_88 : x_fetch q_k122 88 = x_ald 89 1 := rfl
theorem t122_88 (C : xF) (s n : Nat) (z : xS) : x_to q_k122 C s (n + 1) 88 z = x_nx q_k122 C s n ((x_ald 89 1) C z) := x_to_at f122_88 C s n z
theorem f122_89 : x_fetch q_k122 89 = x_ast 90 1 (fun x => vp_nar .boolean x) := rfl
theorem t122_89 (C : xF) (s n : Nat) (z : xS) : x_to q_k122 C s (n + 1) 89 z = x_nx q_k122 C s n ((x_ast 90 1 (fun x => vp_nar .boolean x)) C z) := x_to_at f122_89 C s n z
theorem f122_90 : x_fetch q_k122 90 = x_iinc 93 1 (1) := rfl
theorem t122_90 (C : xF) (s n : Nat) (z : xS) : x_to q_k122 C s (n + 1) 90 z = x_nx q_k122 C s n ((x_iinc 93 1 (1)) C z) := x_to_at f122_90 C s n z
theorem f122_93 : x_fetch q_k122 93 = x_st (x_goto 70) := rfl
theorem t122_93 (C : xF) (s n : Nat) (z : xS) : x_to q_k122 C s (n + 1) 93 z = x_nx q_k122 C s n ((x_st (x_goto 70)) C z) := x_to_at f122_93 C s n z
theorem f122_96 : x_fetch q_k122 96 = x_rv := rfl
theorem t122_96 (C : xF) (s n : Nat) (z : xS) : x_to q_k122 C s (n + 1) 96 z = x_nx q_k122 C s n ((x_rv) C z) := x_to_at f122_96 C s n z
section CP
variable {w : Nat → xC} {N : Nat} {m : Nat → Int} {S T U : List Int}

theorem l122_14 (d : Nat) (hN : 53 ≤ N) (hm : w 27 = .inr (8, mF m)) (hs : w 38 = cI 0 S) (hS : S.length = 600) (hb : m 7 ≤ 60) (hb0 : 0 ≤ m 7) : ∀ (r : Nat) (k : Int) (Q : List Int) (lv : xL), Q.length = 60 → k + r = m 7 → 0 ≤ k → c1 lv → x_lk lv 0 = some (.ref 30) → x_lk lv 1 = some (.int (iZ k)) → ∀ res, (∀ lv', c1 lv' → (∀ j, j ≠ 1 → x_lk lv' j = x_lk lv j) → Gx q_k122 d 40 (lv', [], hp (uH w 42 (cI 0 (cpl (0) (fun k => gZ S k) r k Q))) N) res) →
    Gx q_k122 d 14 (lv, [], hp (uH w 42 (cI 0 Q)) N) res := by
  intro r
  induction r with
  | zero =>
    intro k Q lv hQ hk h0 hc l0 l1  res hcont
    refine Gx.run 60 Cs.tt (fun C _ => ?_) (hcont lv hc (fun _ _ => rfl))
    have b1 : m 7 ≤ k := by omega
    simp (disch := first | (refine c1_id ?_; assumption) | (refine c1_st rfl ?_; first | assumption | (refine c1_st rfl ?_; first | assumption | (refine c1_st rfl ?_; first | assumption | (refine c1_st rfl ?_; assumption)))) | omega) [nx_l, nx_r, nx_n, x_st, x_push, x_bin, x_div, x_un, x_dup, x_pop, x_dup2, x_goto, x_ifeq, x_ifne, x_iflt, x_ifge, x_ifgt, x_ifle, x_iceq, x_icne, x_iclt, x_icge, x_icgt, x_icle, x_ifnull, x_ifnonnull, x_ldi, x_lda, x_sti, x_sta, x_iinc, x_gf, x_pf, x_ald, x_ast, x_aln, x_len, x_cl_, x_cv, x_cs, x_rc, x_r0, x_isT, x_oi, x_rv, x_ri, x_ra, Value.category, t122_0, t122_1, t122_4, t122_5, t122_6, t122_9, t122_12, t122_13, t122_14, t122_15, t122_16, t122_19, t122_22, t122_23, t122_26, t122_27, t122_28, t122_31, t122_32, t122_33, t122_34, t122_37, t122_40, t122_41, t122_42, t122_43, t122_44, t122_47, t122_50, t122_51, t122_54, t122_55, t122_56, t122_59, t122_60, t122_61, t122_62, t122_65, t122_68, t122_69, t122_70, t122_71, t122_72, t122_75, t122_78, t122_79, t122_82, t122_83, t122_84, t122_87, t122_88, t122_89, t122_90, t122_93, t122_96, lk_s, hp_get, hp_set, uH_at, uH_ne, uH_upd, uH_swap, iZ_add, iZ_sub, iZ_mul, iZ_neg, iZ_lt, iZ_le, iZ_eq, iZ_div, iZ_of, ix_Z, gZ_map, gZ_mapI, gZ_map', le_0, le_s, sZ_map, sZ_len, bZ_0, bZ_inj, bZ_t, bZ_f, nr_i, nr_0, nr_1, nr_b, ft_i, ft_b, ft_0, ft_1, zl_0, zl_1, mF_len, mg_0, mg_1, mg_2, mg_3, mg_4, mg_5, mg_6, mg_7, mg_8, mg_9, mg_10, mg_11, mg_12, mg_13, mg_14, mg_15, mg_16, mg_17, mg_18, mg_19, mg_20, mg_21, mg_22, mg_23, mg_24, mg_25, mg_26, mg_27, mg_28, mg_29, mg_30, mg_31, mg_32, mg_33, mg_34, mg_35, mg_36, mg_37, mg_38, ms_0, ms_1, ms_2, ms_13, ms_14, ms_15, ms_16, ms_21, ms_22, ms_23, ms_24, ms_28, ms_36, ms_37, ms_38, st_at, st_ne, st_st, st_swap, l0, l1, hm, hs, b1, cpl, -List.filter_filter, -List.getElem?_map, -List.getD_eq_getElem?_getD]
  | succ r ih =>
    intro k Q lv hQ hk h0 hc l0 l1  res hcont
    refine Gx.run 60 Cs.tt (fun C _ => ?_) (ih (k + 1) (sZ Q (0 + k) ((fun k => gZ S k) k)) (((1 : Nat), .int (iZ (k + 1))) :: List.filter (x_keep 1) lv) (by rw [sZ_len]; exact hQ) (by omega) (by omega) (c1_st rfl hc) (by rw [lk_s hc]; exact l0) (by rw [lk_s hc]; rfl) res (fun lv' h1 h2 => hcont lv' h1 (fun j hj => by rw [h2 j hj, lk_s hc, if_neg (Ne.symm hj)])))
    have b1 : ¬ m 7 ≤ k := by omega
    simp (disch := first | (refine c1_id ?_; assumption) | (refine c1_st rfl ?_; first | assumption | (refine c1_st rfl ?_; first | assumption | (refine c1_st rfl ?_; first | assumption | (refine c1_st rfl ?_; assumption)))) | omega) [nx_l, nx_r, nx_n, x_st, x_push, x_bin, x_div, x_un, x_dup, x_pop, x_dup2, x_goto, x_ifeq, x_ifne, x_iflt, x_ifge, x_ifgt, x_ifle, x_iceq, x_icne, x_iclt, x_icge, x_icgt, x_icle, x_ifnull, x_ifnonnull, x_ldi, x_lda, x_sti, x_sta, x_iinc, x_gf, x_pf, x_ald, x_ast, x_aln, x_len, x_cl_, x_cv, x_cs, x_rc, x_r0, x_isT, x_oi, x_rv, x_ri, x_ra, Value.category, t122_0, t122_1, t122_4, t122_5, t122_6, t122_9, t122_12, t122_13, t122_14, t122_15, t122_16, t122_19, t122_22, t122_23, t122_26, t122_27, t122_28, t122_31, t122_32, t122_33, t122_34, t122_37, t122_40, t122_41, t122_42, t122_43, t122_44, t122_47, t122_50, t122_51, t122_54, t122_55, t122_56, t122_59, t122_60, t122_61, t122_62, t122_65, t122_68, t122_69, t122_70, t122_71, t122_72, t122_75, t122_78, t122_79, t122_82, t122_83, t122_84, t122_87, t122_88, t122_89, t122_90, t122_93, t122_96, lk_s, hp_get, hp_set, uH_at, uH_ne, uH_upd, uH_swap, iZ_add, iZ_sub, iZ_mul, iZ_neg, iZ_lt, iZ_le, iZ_eq, iZ_div, iZ_of, ix_Z, gZ_map, gZ_mapI, gZ_map', le_0, le_s, sZ_map, sZ_len, bZ_0, bZ_inj, bZ_t, bZ_f, nr_i, nr_0, nr_1, nr_b, ft_i, ft_b, ft_0, ft_1, zl_0, zl_1, mF_len, mg_0, mg_1, mg_2, mg_3, mg_4, mg_5, mg_6, mg_7, mg_8, mg_9, mg_10, mg_11, mg_12, mg_13, mg_14, mg_15, mg_16, mg_17, mg_18, mg_19, mg_20, mg_21, mg_22, mg_23, mg_24, mg_25, mg_26, mg_27, mg_28, mg_29, mg_30, mg_31, mg_32, mg_33, mg_34, mg_35, mg_36, mg_37, mg_38, ms_0, ms_1, ms_2, ms_13, ms_14, ms_15, ms_16, ms_21, ms_22, ms_23, ms_24, ms_28, ms_36, ms_37, ms_38, st_at, st_ne, st_st, st_swap, l0, l1, hm, hs, b1, -List.filter_filter, -List.getElem?_map, -List.getD_eq_getElem?_getD]

theorem l122_42 (d : Nat) (hN : 53 ≤ N) (hm : w 27 = .inr (8, mF m)) (hs : w 39 = cI 0 S) (hS : S.length = 14) (hb : m 8 ≤ 7) (hb0 : 0 ≤ m 8) : ∀ (r : Nat) (k : Int) (Q : List Int) (lv : xL), Q.length = 8 → k + r = m 8 + 1 → 0 ≤ k → c1 lv → x_lk lv 0 = some (.ref 30) → x_lk lv 1 = some (.int (iZ k)) → ∀ res, (∀ lv', c1 lv' → (∀ j, j ≠ 1 → x_lk lv' j = x_lk lv j) → Gx q_k122 d 68 (lv', [], hp (uH w 43 (cI 0 (cpl (0) (fun k => gZ S k) r k Q))) N) res) →
    Gx q_k122 d 42 (lv, [], hp (uH w 43 (cI 0 Q)) N) res := by
  intro r
  induction r with
  | zero =>
    intro k Q lv hQ hk h0 hc l0 l1  res hcont
    refine Gx.run 60 Cs.tt (fun C _ => ?_) (hcont lv hc (fun _ _ => rfl))
    have b1 : m 8 < k := by omega
    simp (disch := first | (refine c1_id ?_; assumption) | (refine c1_st rfl ?_; first | assumption | (refine c1_st rfl ?_; first | assumption | (refine c1_st rfl ?_; first | assumption | (refine c1_st rfl ?_; assumption)))) | omega) [nx_l, nx_r, nx_n, x_st, x_push, x_bin, x_div, x_un, x_dup, x_pop, x_dup2, x_goto, x_ifeq, x_ifne, x_iflt, x_ifge, x_ifgt, x_ifle, x_iceq, x_icne, x_iclt, x_icge, x_icgt, x_icle, x_ifnull, x_ifnonnull, x_ldi, x_lda, x_sti, x_sta, x_iinc, x_gf, x_pf, x_ald, x_ast, x_aln, x_len, x_cl_, x_cv, x_cs, x_rc, x_r0, x_isT, x_oi, x_rv, x_ri, x_ra, Value.category, t122_0, t122_1, t122_4, t122_5, t122_6, t122_9, t122_12, t122_13, t122_14, t122_15, t122_16, t122_19, t122_22, t122_23, t122_26, t122_27, t122_28, t122_31, t122_32, t122_33, t122_34, t122_37, t122_40, t122_41, t122_42, t122_43, t122_44, t122_47, t122_50, t122_51, t122_54, t122_55, t122_56, t122_59, t122_60, t122_61, t122_62, t122_65, t122_68, t122_69, t122_70, t122_71, t122_72, t122_75, t122_78, t122_79, t122_82, t122_83, t122_84, t122_87, t122_88, t122_89, t122_90, t122_93, t122_96, lk_s, hp_get, hp_set, uH_at, uH_ne, uH_upd, uH_swap, iZ_add, iZ_sub, iZ_mul, iZ_neg, iZ_lt, iZ_le, iZ_eq, iZ_div, iZ_of, ix_Z, gZ_map, gZ_mapI, gZ_map', le_0, le_s, sZ_map, sZ_len, bZ_0, bZ_inj, bZ_t, bZ_f, nr_i, nr_0, nr_1, nr_b, ft_i, ft_b, ft_0, ft_1, zl_0, zl_1, mF_len, mg_0, mg_1, mg_2, mg_3, mg_4, mg_5, mg_6, mg_7, mg_8, mg_9, mg_10, mg_11, mg_12, mg_13, mg_14, mg_15, mg_16, mg_17, mg_18, mg_19, mg_20, mg_21, mg_22, mg_23, mg_24, mg_25, mg_26, mg_27, mg_28, mg_29, mg_30, mg_31, mg_32, mg_33, mg_34, mg_35, mg_36, mg_37, mg_38, ms_0, ms_1, ms_2, ms_13, ms_14, ms_15, ms_16, ms_21, ms_22, ms_23, ms_24, ms_28, ms_36, ms_37, ms_38, st_at, st_ne, st_st, st_swap, l0, l1, hm, hs, b1, cpl, -List.filter_filter, -List.getElem?_map, -List.getD_eq_getElem?_getD]
  | succ r ih =>
    intro k Q lv hQ hk h0 hc l0 l1  res hcont
    refine Gx.run 60 Cs.tt (fun C _ => ?_) (ih (k + 1) (sZ Q (0 + k) ((fun k => gZ S k) k)) (((1 : Nat), .int (iZ (k + 1))) :: List.filter (x_keep 1) lv) (by rw [sZ_len]; exact hQ) (by omega) (by omega) (c1_st rfl hc) (by rw [lk_s hc]; exact l0) (by rw [lk_s hc]; rfl) res (fun lv' h1 h2 => hcont lv' h1 (fun j hj => by rw [h2 j hj, lk_s hc, if_neg (Ne.symm hj)])))
    have b1 : ¬ m 8 < k := by omega
    simp (disch := first | (refine c1_id ?_; assumption) | (refine c1_st rfl ?_; first | assumption | (refine c1_st rfl ?_; first | assumption | (refine c1_st rfl ?_; first | assumption | (refine c1_st rfl ?_; assumption)))) | omega) [nx_l, nx_r, nx_n, x_st, x_push, x_bin, x_div, x_un, x_dup, x_pop, x_dup2, x_goto, x_ifeq, x_ifne, x_iflt, x_ifge, x_ifgt, x_ifle, x_iceq, x_icne, x_iclt, x_icge, x_icgt, x_icle, x_ifnull, x_ifnonnull, x_ldi, x_lda, x_sti, x_sta, x_iinc, x_gf, x_pf, x_ald, x_ast, x_aln, x_len, x_cl_, x_cv, x_cs, x_rc, x_r0, x_isT, x_oi, x_rv, x_ri, x_ra, Value.category, t122_0, t122_1, t122_4, t122_5, t122_6, t122_9, t122_12, t122_13, t122_14, t122_15, t122_16, t122_19, t122_22, t122_23, t122_26, t122_27, t122_28, t122_31, t122_32, t122_33, t122_34, t122_37, t122_40, t122_41, t122_42, t122_43, t122_44, t122_47, t122_50, t122_51, t122_54, t122_55, t122_56, t122_59, t122_60, t122_61, t122_62, t122_65, t122_68, t122_69, t122_70, t122_71, t122_72, t122_75, t122_78, t122_79, t122_82, t122_83, t122_84, t122_87, t122_88, t122_89, t122_90, t122_93, t122_96, lk_s, hp_get, hp_set, uH_at, uH_ne, uH_upd, uH_swap, iZ_add, iZ_sub, iZ_mul, iZ_neg, iZ_lt, iZ_le, iZ_eq, iZ_div, iZ_of, ix_Z, gZ_map, gZ_mapI, gZ_map', le_0, le_s, sZ_map, sZ_len, bZ_0, bZ_inj, bZ_t, bZ_f, nr_i, nr_0, nr_1, nr_b, ft_i, ft_b, ft_0, ft_1, zl_0, zl_1, mF_len, mg_0, mg_1, mg_2, mg_3, mg_4, mg_5, mg_6, mg_7, mg_8, mg_9, mg_10, mg_11, mg_12, mg_13, mg_14, mg_15, mg_16, mg_17, mg_18, mg_19, mg_20, mg_21, mg_22, mg_23, mg_24, mg_25, mg_26, mg_27, mg_28, mg_29, mg_30, mg_31, mg_32, mg_33, mg_34, mg_35, mg_36, mg_37, mg_38, ms_0, ms_1, ms_2, ms_13, ms_14, ms_15, ms_16, ms_21, ms_22, ms_23, ms_24, ms_28, ms_36, ms_37, ms_38, st_at, st_ne, st_st, st_swap, l0, l1, hm, hs, b1, -List.filter_filter, -List.getElem?_map, -List.getD_eq_getElem?_getD]

end CP
