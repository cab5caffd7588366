/-- ProofDeskModel.led(I)I -/
def q_k111_0 : List (Nat × xO) := [(0, x_ldi 1 1), (1, x_sti 2 2), (2, x_lda 3 0), (3, x_gf 6 8 29), (6, x_ldi 7 2), (7, x_ald 8 0), (8, x_st (x_push 10 (.int (99)))), (10, x_st (x_icge 42 13)), (13, x_lda 14 0), (14, x_gf 17 8 30), (17, x_lda 18 0), (18, x_gf 21 8 29), (21, x_ldi 22 2), (22, x_ald 23 0), (23, x_ald 24 0), (24, x_st (x_iflt 42 27)), (27, x_lda 28 0), (28, x_gf 31 8 30), (31, x_lda 32 0), (32, x_gf 35 8 29), (35, x_ldi 36 2), (36, x_ald 37 0), (37, x_ald 38 0), (38, x_sti 39 2), (39, x_st (x_goto 2)), (42, x_ldi 43 2), (43, x_ri (.int))]
set_option maxRecDepth 100000 in
set_option maxHeartbeats 4000000 in
theorem q_s111_0 (l : Launch) (s0 : State) : ∀ q ∈ q_k111_0, x_Sim (x_K s0) none l q_y111 q_c111 3 (some .int) q_w111 q.1 q.2 := by
  unfold q_k111_0
  refine List.forall_mem_cons.2 ⟨s_iload_n (k := 1) (by decide +kernel) rfl, ?_⟩
  refine List.forall_mem_cons.2 ⟨s_istore_n (k := 2) (by decide +kernel) rfl (by decide), ?_⟩
  refine List.forall_mem_cons.2 ⟨s_aload_n (k := 0) (by decide +kernel) rfl, ?_⟩
  refine List.forall_mem_cons.2 ⟨s_getfield (C := q_n8) (T := q_T8) (N := 39) (idx := 63) (ref := "ProofDeskModel") (by decide +kernel) rfl q_in8 (by decide) (x_up mw_660) rfl, ?_⟩
  refine List.forall_mem_cons.2 ⟨s_iload_n (k := 2) (by decide +kernel) rfl, ?_⟩
  refine List.forall_mem_cons.2 ⟨s_iald (by decide +kernel) rfl, ?_⟩
  refine List.forall_mem_cons.2 ⟨s_bipush (k := 99) (by decide +kernel) (by decide +kernel), ?_⟩
  refine List.forall_mem_cons.2 ⟨s_icmp_ge (off := 32) (by decide +kernel) (by decide), ?_⟩
  refine List.forall_mem_cons.2 ⟨s_aload_n (k := 0) (by decide +kernel) rfl, ?_⟩
  refine List.forall_mem_cons.2 ⟨s_getfield (C := q_n8) (T := q_T8) (N := 39) (idx := 66) (ref := "ProofDeskModel") (by decide +kernel) rfl q_in8 (by decide) (x_up mw_661) rfl, ?_⟩
  refine List.forall_mem_cons.2 ⟨s_aload_n (k := 0) (by decide +kernel) rfl, ?_⟩
  refine List.forall_mem_cons.2 ⟨s_getfield (C := q_n8) (T := q_T8) (N := 39) (idx := 63) (ref := "ProofDeskModel") (by decide +kernel) rfl q_in8 (by decide) (x_up mw_660) rfl, ?_⟩
  refine List.forall_mem_cons.2 ⟨s_iload_n (k := 2) (by decide +kernel) rfl, ?_⟩
  refine List.forall_mem_cons.2 ⟨s_iald (by decide +kernel) rfl, ?_⟩
  refine List.forall_mem_cons.2 ⟨s_iald (by decide +kernel) rfl, ?_⟩
  refine List.forall_mem_cons.2 ⟨s_iflt (off := 18) (by decide +kernel) (by decide), ?_⟩
  refine List.forall_mem_cons.2 ⟨s_aload_n (k := 0) (by decide +kernel) rfl, ?_⟩
  refine List.forall_mem_cons.2 ⟨s_getfield (C := q_n8) (T := q_T8) (N := 39) (idx := 66) (ref := "ProofDeskModel") (by decide +kernel) rfl q_in8 (by decide) (x_up mw_661) rfl, ?_⟩
  refine List.forall_mem_cons.2 ⟨s_aload_n (k := 0) (by decide +kernel) rfl, ?_⟩
  refine List.forall_mem_cons.2 ⟨s_getfield (C := q_n8) (T := q_T8) (N := 39) (idx := 63) (ref := "ProofDeskModel") (by decide +kernel) rfl q_in8 (by decide) (x_up mw_660) rfl, ?_⟩
  refine List.forall_mem_cons.2 ⟨s_iload_n (k := 2) (by decide +kernel) rfl, ?_⟩
  refine List.forall_mem_cons.2 ⟨s_iald (by decide +kernel) rfl, ?_⟩
  refine List.forall_mem_cons.2 ⟨s_iald (by decide +kernel) rfl, ?_⟩
  refine List.forall_mem_cons.2 ⟨s_istore_n (k := 2) (by decide +kernel) rfl (by decide), ?_⟩
  refine List.forall_mem_cons.2 ⟨s_goto (off := -37) (by decide +kernel) (by decide), ?_⟩
  refine List.forall_mem_cons.2 ⟨s_iload_n (k := 2) (by decide +kernel) rfl, ?_⟩
  refine List.forall_mem_cons.2 ⟨s_ireturn (ty := .int) (by decide +kernel) rfl, ?_⟩
  exact fun _ h => absurd h List.not_mem_nil
def q_k111 : List (Nat × xO) := q_k111_0
theorem q_s111 (l : Launch) (s0 : State) : ∀ q ∈ q_k111, x_Sim (x_K s0) none l q_y111 q_c111 3 (some .int) q_w111 q.1 q.2 := q_s111_0 l s0
/-- ProofDeskModel.occurs(II)Z -/
def q_k112_0 : List (Nat × xO) := [(0, x_st (x_push 1 (.int (1)))), (1, x_sti 2 3), (2, x_lda 3 0), (3, x_gf 6 8 33), (6, x_st (x_push 7 (.int (0)))), (7, x_ldi 8 2), (8, x_ast 9 0 (fun x => x)), (9, x_lda 10 0), (10, x_gf 13 8 34), (13, x_st (x_push 14 (.int (0)))), (14, x_lda 15 0), (15, x_ldi 16 2), (16, x_cv 19 109 2 8), (19, x_ast 20 0 (fun x => x)), (20, x_ldi 21 3), (21, x_st (x_ifle 135 24)), (24, x_lda 25 0), (25, x_gf 28 8 33), (28, x_ldi 29 3), (29, x_st (x_push 30 (.int (1)))), (30, x_st (x_bin 31 (fun a b => a - b))), (31, x_ald 32 0), (32, x_sti 34 4), (34, x_ldi 36 4), (36, x_lda 37 0), (37, x_gf 40 8 34), (40, x_ldi 41 3), (41, x_st (x_push 42 (.int (1)))), (42, x_st (x_bin 43 (fun a b => a - b))), (43, x_ald 44 0), (44, x_st (x_icne 53 47)), (47, x_iinc 50 3 (-1)), (50, x_st (x_goto 132)), (53, x_lda 54 0), (54, x_gf 57 8 33), (57, x_ldi 58 3), (58, x_st (x_push 59 (.int (1)))), (59, x_st (x_bin 60 (fun a b => a - b))), (60, x_st (x_dup2 61)), (61, x_ald 62 0)]
set_option maxRecDepth 100000 in
set_option maxHeartbeats 4000000 in
theorem q_s112_0 (l : Launch) (s0 : State) : ∀ q ∈ q_k112_0, x_Sim (x_K s0) none l q_y112 q_c112 6 (some .boolean) q_w112 q.1 q.2 := by
  unfold q_k112_0
  refine List.forall_mem_cons.2 ⟨s_iconst (k := 1) (by decide +kernel) (by decide +kernel), ?_⟩
  refine List.forall_mem_cons.2 ⟨s_istore_n (k := 3) (by decide +kernel) rfl (by decide), ?_⟩
  refine List.forall_mem_cons.2 ⟨s_aload_n (k := 0) (by decide +kernel) rfl, ?_⟩
  refine List.forall_mem_cons.2 ⟨s_getfield (C := q_n8) (T := q_T8) (N := 39) (idx := 75) (ref := "ProofDeskModel") (by decide +kernel) rfl q_in8 (by decide) (x_up mw_664) rfl, ?_⟩
  refine List.forall_mem_cons.2 ⟨s_iconst (k := 0) (by decide +kernel) (by decide +kernel), ?_⟩
  refine List.forall_mem_cons.2 ⟨s_iload_n (k := 2) (by decide +kernel) rfl, ?_⟩
  refine List.forall_mem_cons.2 ⟨s_iast (by decide +kernel) rfl, ?_⟩
  refine List.forall_mem_cons.2 ⟨s_aload_n (k := 0) (by decide +kernel) rfl, ?_⟩
  refine List.forall_mem_cons.2 ⟨s_getfield (C := q_n8) (T := q_T8) (N := 39) (idx := 78) (ref := "ProofDeskModel") (by decide +kernel) rfl q_in8 (by decide) (x_up mw_665) rfl, ?_⟩
  refine List.forall_mem_cons.2 ⟨s_iconst (k := 0) (by decide +kernel) (by decide +kernel), ?_⟩
  refine List.forall_mem_cons.2 ⟨s_aload_n (k := 0) (by decide +kernel) rfl, ?_⟩
  refine List.forall_mem_cons.2 ⟨s_iload_n (k := 2) (by decide +kernel) rfl, ?_⟩
  refine List.forall_mem_cons.2 ⟨s_invokevirtual (idx := 168) (M := 109) (k := 1) (ci := 8) (C := q_n8) (T := q_T8) (N := 39) (ym := q_y109) (wm := q_w109) (by decide +kernel) rfl rfl rfl (x_gdV mw_733 mw_734 mw_735 mw_675 mw_732) rfl (by decide +kernel) (by decide), ?_⟩
  refine List.forall_mem_cons.2 ⟨s_iast (by decide +kernel) rfl, ?_⟩
  refine List.forall_mem_cons.2 ⟨s_iload_n (k := 3) (by decide +kernel) rfl, ?_⟩
  refine List.forall_mem_cons.2 ⟨s_ifle (off := 114) (by decide +kernel) (by decide), ?_⟩
  refine List.forall_mem_cons.2 ⟨s_aload_n (k := 0) (by decide +kernel) rfl, ?_⟩
  refine List.forall_mem_cons.2 ⟨s_getfield (C := q_n8) (T := q_T8) (N := 39) (idx := 75) (ref := "ProofDeskModel") (by decide +kernel) rfl q_in8 (by decide) (x_up mw_664) rfl, ?_⟩
  refine List.forall_mem_cons.2 ⟨s_iload_n (k := 3) (by decide +kernel) rfl, ?_⟩
  refine List.forall_mem_cons.2 ⟨s_iconst (k := 1) (by decide +kernel) (by decide +kernel), ?_⟩
  refine List.forall_mem_cons.2 ⟨s_isub (by decide +kernel), ?_⟩
  refine List.forall_mem_cons.2 ⟨s_iald (by decide +kernel) rfl, ?_⟩
  refine List.forall_mem_cons.2 ⟨s_istore (by decide +kernel) (by decide), ?_⟩
  refine List.forall_mem_cons.2 ⟨s_iload (by decide +kernel), ?_⟩
  refine List.forall_mem_cons.2 ⟨s_aload_n (k := 0) (by decide +kernel) rfl, ?_⟩
  refine List.forall_mem_cons.2 ⟨s_getfield (C := q_n8) (T := q_T8) (N := 39) (idx := 78) (ref := "ProofDeskModel") (by decide +kernel) rfl q_in8 (by decide) (x_up mw_665) rfl, ?_⟩
  refine List.forall_mem_cons.2 ⟨s_iload_n (k := 3) (by decide +kernel) rfl, ?_⟩
  refine List.forall_mem_cons.2 ⟨s_iconst (k := 1) (by decide +kernel) (by decide +kernel), ?_⟩
  refine List.forall_mem_cons.2 ⟨s_isub (by decide +kernel), ?_⟩
  refine List.forall_mem_cons.2 ⟨s_iald (by decide +kernel) rfl, ?_⟩
  refine List.forall_mem_cons.2 ⟨s_icmp_ne (off := 9) (by decide +kernel) (by decide), ?_⟩
  refine List.forall_mem_cons.2 ⟨s_iinc (k := -1) (by decide +kernel) (by decide +kernel) (by decide), ?_⟩
  refine List.forall_mem_cons.2 ⟨s_goto (off := 82) (by decide +kernel) (by decide), ?_⟩
  refine List.forall_mem_cons.2 ⟨s_aload_n (k := 0) (by decide +kernel) rfl, ?_⟩
  refine List.forall_mem_cons.2 ⟨s_getfield (C := q_n8) (T := q_T8) (N := 39) (idx := 75) (ref := "ProofDeskModel") (by decide +kernel) rfl q_in8 (by decide) (x_up mw_664) rfl, ?_⟩
  refine List.forall_mem_cons.2 ⟨s_iload_n (k := 3) (by decide +kernel) rfl, ?_⟩
  refine List.forall_mem_cons.2 ⟨s_iconst (k := 1) (by decide +kernel) (by decide +kernel), ?_⟩
  refine List.forall_mem_cons.2 ⟨s_isub (by decide +kernel), ?_⟩
  refine List.forall_mem_cons.2 ⟨s_dup2 (by decide +kernel), ?_⟩
  refine List.forall_mem_cons.2 ⟨s_iald (by decide +kernel) rfl, ?_⟩
  exact fun _ h => absurd h List.not_mem_nil
def q_k112_1 : List (Nat × xO) := [(62, x_st (x_push 63 (.int (1)))), (63, x_st (x_bin 64 (fun a b => a + b))), (64, x_ast 65 0 (fun x => x)), (65, x_lda 66 0), (66, x_gf 69 8 29), (69, x_ldi 71 4), (71, x_ald 72 0), (72, x_sti 74 5), (74, x_ldi 76 5), (76, x_ldi 77 1), (77, x_st (x_icne 82 80)), (80, x_st (x_push 81 (.int (1)))), (81, x_ri (.boolean)), (82, x_ldi 84 5), (84, x_st (x_push 86 (.int (99)))), (86, x_st (x_icge 132 89)), (89, x_lda 90 0), (90, x_gf 93 8 30), (93, x_ldi 95 5), (95, x_ald 96 0), (96, x_st (x_iflt 132 99)), (99, x_lda 100 0), (100, x_gf 103 8 33), (103, x_ldi 104 3), (104, x_lda 105 0), (105, x_gf 108 8 30), (108, x_ldi 110 5), (110, x_ald 111 0), (111, x_ast 112 0 (fun x => x)), (112, x_lda 113 0), (113, x_gf 116 8 34), (116, x_ldi 117 3), (117, x_lda 118 0), (118, x_lda 119 0), (119, x_gf 122 8 30), (122, x_ldi 124 5), (124, x_ald 125 0), (125, x_cv 128 109 2 8), (128, x_ast 129 0 (fun x => x)), (129, x_iinc 132 3 (1))]
set_option maxRecDepth 100000 in
set_option maxHeartbeats 4000000 in
theorem q_s112_1 (l : Launch) (s0 : State) : ∀ q ∈ q_k112_1, x_Sim (x_K s0) none l q_y112 q_c112 6 (some .boolean) q_w112 q.1 q.2 := by
  unfold q_k112_1
  refine List.forall_mem_cons.2 ⟨s_iconst (k := 1) (by decide +kernel) (by decide +kernel), ?_⟩
  refine List.forall_mem_cons.2 ⟨s_iadd (by decide +kernel), ?_⟩
  refine List.forall_mem_cons.2 ⟨s_iast (by decide +kernel) rfl, ?_⟩
  refine List.forall_mem_cons.2 ⟨s_aload_n (k := 0) (by decide +kernel) rfl, ?_⟩
  refine List.forall_mem_cons.2 ⟨s_getfield (C := q_n8) (T := q_T8) (N := 39) (idx := 63) (ref := "ProofDeskModel") (by decide +kernel) rfl q_in8 (by decide) (x_up mw_660) rfl, ?_⟩
  refine List.forall_mem_cons.2 ⟨s_iload (by decide +kernel), ?_⟩
  refine List.forall_mem_cons.2 ⟨s_iald (by decide +kernel) rfl, ?_⟩
  refine List.forall_mem_cons.2 ⟨s_istore (by decide +kernel) (by decide), ?_⟩
  refine List.forall_mem_cons.2 ⟨s_iload (by decide +kernel), ?_⟩
  refine List.forall_mem_cons.2 ⟨s_iload_n (k := 1) (by decide +kernel) rfl, ?_⟩
  refine List.forall_mem_cons.2 ⟨s_icmp_ne (off := 5) (by decide +kernel) (by decide), ?_⟩
  refine List.forall_mem_cons.2 ⟨s_iconst (k := 1) (by decide +kernel) (by decide +kernel), ?_⟩
  refine List.forall_mem_cons.2 ⟨s_ireturn (ty := .boolean) (by decide +kernel) rfl, ?_⟩
  refine List.forall_mem_cons.2 ⟨s_iload (by decide +kernel), ?_⟩
  refine List.forall_mem_cons.2 ⟨s_bipush (k := 99) (by decide +kernel) (by decide +kernel), ?_⟩
  refine List.forall_mem_cons.2 ⟨s_icmp_ge (off := 46) (by decide +kernel) (by decide), ?_⟩
  refine List.forall_mem_cons.2 ⟨s_aload_n (k := 0) (by decide +kernel) rfl, ?_⟩
  refine List.forall_mem_cons.2 ⟨s_getfield (C := q_n8) (T := q_T8) (N := 39) (idx := 66) (ref := "ProofDeskModel") (by decide +kernel) rfl q_in8 (by decide) (x_up mw_661) rfl, ?_⟩
  refine List.forall_mem_cons.2 ⟨s_iload (by decide +kernel), ?_⟩
  refine List.forall_mem_cons.2 ⟨s_iald (by decide +kernel) rfl, ?_⟩
  refine List.forall_mem_cons.2 ⟨s_iflt (off := 36) (by decide +kernel) (by decide), ?_⟩
  refine List.forall_mem_cons.2 ⟨s_aload_n (k := 0) (by decide +kernel) rfl, ?_⟩
  refine List.forall_mem_cons.2 ⟨s_getfield (C := q_n8) (T := q_T8) (N := 39) (idx := 75) (ref := "ProofDeskModel") (by decide +kernel) rfl q_in8 (by decide) (x_up mw_664) rfl, ?_⟩
  refine List.forall_mem_cons.2 ⟨s_iload_n (k := 3) (by decide +kernel) rfl, ?_⟩
  refine List.forall_mem_cons.2 ⟨s_aload_n (k := 0) (by decide +kernel) rfl, ?_⟩
  refine List.forall_mem_cons.2 ⟨s_getfield (C := q_n8) (T := q_T8) (N := 39) (idx := 66) (ref := "ProofDeskModel") (by decide +kernel) rfl q_in8 (by decide) (x_up mw_661) rfl, ?_⟩
  refine List.forall_mem_cons.2 ⟨s_iload (by decide +kernel), ?_⟩
  refine List.forall_mem_cons.2 ⟨s_iald (by decide +kernel) rfl, ?_⟩
  refine List.forall_mem_cons.2 ⟨s_iast (by decide +kernel) rfl, ?_⟩
  refine List.forall_mem_cons.2 ⟨s_aload_n (k := 0) (by decide +kernel) rfl, ?_⟩
  refine List.forall_mem_cons.2 ⟨s_getfield (C := q_n8) (T := q_T8) (N := 39) (idx := 78) (ref := "ProofDeskModel") (by decide +kernel) rfl q_in8 (by decide) (x_up mw_665) rfl, ?_⟩
  refine List.forall_mem_cons.2 ⟨s_iload_n (k := 3) (by decide +kernel) rfl, ?_⟩
  refine List.forall_mem_cons.2 ⟨s_aload_n (k := 0) (by decide +kernel) rfl, ?_⟩
  refine List.forall_mem_cons.2 ⟨s_aload_n (k := 0) (by decide +kernel) rfl, ?_⟩
  refine List.forall_mem_cons.2 ⟨s_getfield (C := q_n8) (T := q_T8) (N := 39) (idx := 66) (ref := "ProofDeskModel") (by decide +kernel) rfl q_in8 (by decide) (x_up mw_661) rfl, ?_⟩
  refine List.forall_mem_cons.2 ⟨s_iload (by decide +kernel), ?_⟩
  refine List.forall_mem_cons.2 ⟨s_iald (by decide +kernel) rfl, ?_⟩
  refine List.forall_mem_cons.2 ⟨s_invokevirtual (idx := 168) (M := 109) (k := 1) (ci := 8) (C := q_n8) (T := q_T8) (N := 39) (ym := q_y109) (wm := q_w109) (by decide +kernel) rfl rfl rfl (x_gdV mw_733 mw_734 mw_735 mw_675 mw_732) rfl (by decide +kernel) (by decide), ?_⟩
  refine List.forall_mem_cons.2 ⟨s_iast (by decide +kernel) rfl, ?_⟩
  refine List.forall_mem_cons.2 ⟨s_iinc (k := 1) (by decide +kernel) (by decide +kernel) (by decide), ?_⟩
  exact fun _ h => absurd h List.not_mem_nil
def q_k112_2 : List (Nat × xO) := [(132, x_st (x_goto 20)), (135, x_st (x_push 136 (.int (0)))), (136, x_ri (.boolean))]
set_option maxRecDepth 100000 in
set_option maxHeartbeats 4000000 in
theorem q_s112_2 (l : Launch) (s0 : State) : ∀ q ∈ q_k112_2, x_Sim (x_K s0) none l q_y112 q_c112 6 (some .boolean) q_w112 q.1 q.2 := by
  unfold q_k112_2
  refine List.forall_mem_cons.2 ⟨s_goto (off := -112) (by decide +kernel) (by decide), ?_⟩
  refine List.forall_mem_cons.2 ⟨s_iconst (k := 0) (by decide +kernel) (by decide +kernel), ?_⟩
  refine List.forall_mem_cons.2 ⟨s_ireturn (ty := .boolean) (by decide +kernel) rfl, ?_⟩
  exact fun _ h => absurd h List.not_mem_nil
def q_k112 : List (Nat × xO) := q_k112_0 ++ q_k112_1 ++ q_k112_2
theorem q_s112 (l : Launch) (s0 : State) : ∀ q ∈ q_k112, x_Sim (x_K s0) none l q_y112 q_c112 6 (some .boolean) q_w112 q.1 q.2 := by
  intro q hq
  simp only [q_k112, List.mem_append] at hq
  rcases hq with (h0 | h1) | h2
  · exact q_s112_0 l s0 q h0
  · exact q_s112_1 l s0 q h1
  · exact q_s112_2 l s0 q h2
/-- ProofDeskModel.unify(II)Z -/
def q_k113_0 : List (Nat × xO) := [(0, x_st (x_push 1 (.int (1)))), (1, x_sti 2 3), (2, x_lda 3 0), (3, x_gf 6 8 31), (6, x_st (x_push 7 (.int (0)))), (7, x_ldi 8 1), (8, x_ast 9 0 (fun x => x)), (9, x_lda 10 0), (10, x_gf 13 8 32), (13, x_st (x_push 14 (.int (0)))), (14, x_ldi 15 2), (15, x_ast 16 0 (fun x => x)), (16, x_ldi 17 3), (17, x_st (x_ifle 228 20)), (20, x_iinc 23 3 (-1)), (23, x_lda 24 0), (24, x_lda 25 0), (25, x_gf 28 8 31), (28, x_ldi 29 3), (29, x_ald 30 0), (30, x_cv 33 111 2 8), (33, x_sti 35 4), (35, x_lda 36 0), (36, x_lda 37 0), (37, x_gf 40 8 32), (40, x_ldi 41 3), (41, x_ald 42 0), (42, x_cv 45 111 2 8), (45, x_sti 47 5), (47, x_lda 48 0), (48, x_gf 51 8 29), (51, x_ldi 53 4), (53, x_ald 54 0), (54, x_sti 56 6), (56, x_lda 57 0), (57, x_gf 60 8 29), (60, x_ldi 62 5), (62, x_ald 63 0), (63, x_sti 65 7), (65, x_ldi 67 6)]
set_option maxRecDepth 100000 in
set_option maxHeartbeats 4000000 in
theorem q_s113_0 (l : Launch) (s0 : State) : ∀ q ∈ q_k113_0, x_Sim (x_K s0) none l q_y113 q_c113 11 (some .boolean) q_w113 q.1 q.2 := by
  unfold q_k113_0
  refine List.forall_mem_cons.2 ⟨s_iconst (k := 1) (by decide +kernel) (by decide +kernel), ?_⟩
  refine List.forall_mem_cons.2 ⟨s_istore_n (k := 3) (by decide +kernel) rfl (by decide), ?_⟩
  refine List.forall_mem_cons.2 ⟨s_aload_n (k := 0) (by decide +kernel) rfl, ?_⟩
  refine List.forall_mem_cons.2 ⟨s_getfield (C := q_n8) (T := q_T8) (N := 39) (idx := 69) (ref := "ProofDeskModel") (by decide +kernel) rfl q_in8 (by decide) (x_up mw_662) rfl, ?_⟩
  refine List.forall_mem_cons.2 ⟨s_iconst (k := 0) (by decide +kernel) (by decide +kernel), ?_⟩
  refine List.forall_mem_cons.2 ⟨s_iload_n (k := 1) (by decide +kernel) rfl, ?_⟩
  refine List.forall_mem_cons.2 ⟨s_iast (by decide +kernel) rfl, ?_⟩
  refine List.forall_mem_cons.2 ⟨s_aload_n (k := 0) (by decide +kernel) rfl, ?_⟩
  refine List.forall_mem_cons.2 ⟨s_getfield (C := q_n8) (T := q_T8) (N := 39) (idx := 72) (ref := "ProofDeskModel") (by decide +kernel) rfl q_in8 (by decide) (x_up mw_663) rfl, ?_⟩
  refine List.forall_mem_cons.2 ⟨s_iconst (k := 0) (by decide +kernel) (by decide +kernel), ?_⟩
  refine List.forall_mem_cons.2 ⟨s_iload_n (k := 2) (by decide +kernel) rfl, ?_⟩
  refine List.forall_mem_cons.2 ⟨s_iast (by decide +kernel) rfl, ?_⟩
  refine List.forall_mem_cons.2 ⟨s_iload_n (k := 3) (by decide +kernel) rfl, ?_⟩
  refine List.forall_mem_cons.2 ⟨s_ifle (off := 211) (by decide +kernel) (by decide), ?_⟩
  refine List.forall_mem_cons.2 ⟨s_iinc (k := -1) (by decide +kernel) (by decide +kernel) (by decide), ?_⟩
  refine List.forall_mem_cons.2 ⟨s_aload_n (k := 0) (by decide +kernel) rfl, ?_⟩
  refine List.forall_mem_cons.2 ⟨s_aload_n (k := 0) (by decide +kernel) rfl, ?_⟩
  refine List.forall_mem_cons.2 ⟨s_getfield (C := q_n8) (T := q_T8) (N := 39) (idx := 69) (ref := "ProofDeskModel") (by decide +kernel) rfl q_in8 (by decide) (x_up mw_662) rfl, ?_⟩
  refine List.forall_mem_cons.2 ⟨s_iload_n (k := 3) (by decide +kernel) rfl, ?_⟩
  refine List.forall_mem_cons.2 ⟨s_iald (by decide +kernel) rfl, ?_⟩
  refine List.forall_mem_cons.2 ⟨s_invokevirtual (idx := 171) (M := 111) (k := 1) (ci := 8) (C := q_n8) (T := q_T8) (N := 39) (ym := q_y111) (wm := q_w111) (by decide +kernel) rfl rfl rfl (x_gdV mw_737 mw_738 mw_739 mw_675 mw_736) rfl (by decide +kernel) (by decide), ?_⟩
  refine List.forall_mem_cons.2 ⟨s_istore (by decide +kernel) (by decide), ?_⟩
  refine List.forall_mem_cons.2 ⟨s_aload_n (k := 0) (by decide +kernel) rfl, ?_⟩
  refine List.forall_mem_cons.2 ⟨s_aload_n (k := 0) (by decide +kernel) rfl, ?_⟩
  refine List.forall_mem_cons.2 ⟨s_getfield (C := q_n8) (T := q_T8) (N := 39) (idx := 72) (ref := "ProofDeskModel") (by decide +kernel) rfl q_in8 (by decide) (x_up mw_663) rfl, ?_⟩
  refine List.forall_mem_cons.2 ⟨s_iload_n (k := 3) (by decide +kernel) rfl, ?_⟩
  refine List.forall_mem_cons.2 ⟨s_iald (by decide +kernel) rfl, ?_⟩
  refine List.forall_mem_cons.2 ⟨s_invokevirtual (idx := 171) (M := 111) (k := 1) (ci := 8) (C := q_n8) (T := q_T8) (N := 39) (ym := q_y111) (wm := q_w111) (by decide +kernel) rfl rfl rfl (x_gdV mw_737 mw_738 mw_739 mw_675 mw_736) rfl (by decide +kernel) (by decide), ?_⟩
  refine List.forall_mem_cons.2 ⟨s_istore (by decide +kernel) (by decide), ?_⟩
  refine List.forall_mem_cons.2 ⟨s_aload_n (k := 0) (by decide +kernel) rfl, ?_⟩
  refine List.forall_mem_cons.2 ⟨s_getfield (C := q_n8) (T := q_T8) (N := 39) (idx := 63) (ref := "ProofDeskModel") (by decide +kernel) rfl q_in8 (by decide) (x_up mw_660) rfl, ?_⟩
  refine List.forall_mem_cons.2 ⟨s_iload (by decide +kernel), ?_⟩
  refine List.forall_mem_cons.2 ⟨s_iald (by decide +kernel) rfl, ?_⟩
  refine List.forall_mem_cons.2 ⟨s_istore (by decide +kernel) (by decide), ?_⟩
  refine List.forall_mem_cons.2 ⟨s_aload_n (k := 0) (by decide +kernel) rfl, ?_⟩
  refine List.forall_mem_cons.2 ⟨s_getfield (C := q_n8) (T := q_T8) (N := 39) (idx := 63) (ref := "ProofDeskModel") (by decide +kernel) rfl q_in8 (by decide) (x_up mw_660) rfl, ?_⟩
  refine List.forall_mem_cons.2 ⟨s_iload (by decide +kernel), ?_⟩
  refine List.forall_mem_cons.2 ⟨s_iald (by decide +kernel) rfl, ?_⟩
  refine List.forall_mem_cons.2 ⟨s_istore (by decide +kernel) (by decide), ?_⟩
  refine List.forall_mem_cons.2 ⟨s_iload (by decide +kernel), ?_⟩
  exact fun _ h => absurd h List.not_mem_nil
def q_k113_1 : List (Nat × xO) := [(67, x_st (x_push 69 (.int (99)))), (69, x_st (x_icge 104 72)), (72, x_ldi 74 6), (74, x_ldi 76 7), (76, x_st (x_iceq 104 79)), (79, x_lda 80 0), (80, x_ldi 82 6), (82, x_ldi 84 5), (84, x_cv 87 112 3 8), (87, x_st (x_ifeq 92 90)), (90, x_st (x_push 91 (.int (0)))), (91, x_ri (.boolean)), (92, x_lda 93 0), (93, x_gf 96 8 30), (96, x_ldi 98 6), (98, x_ldi 100 5), (100, x_ast 101 0 (fun x => x)), (101, x_st (x_goto 225)), (104, x_ldi 106 7), (106, x_st (x_push 108 (.int (99)))), (108, x_st (x_icge 143 111)), (111, x_ldi 113 6), (113, x_ldi 115 7), (115, x_st (x_iceq 143 118)), (118, x_lda 119 0), (119, x_ldi 121 7), (121, x_ldi 123 4), (123, x_cv 126 112 3 8), (126, x_st (x_ifeq 131 129)), (129, x_st (x_push 130 (.int (0)))), (130, x_ri (.boolean)), (131, x_lda 132 0), (132, x_gf 135 8 30), (135, x_ldi 137 7), (137, x_ldi 139 4), (139, x_ast 140 0 (fun x => x)), (140, x_st (x_goto 225)), (143, x_ldi 145 6), (145, x_ldi 147 7), (147, x_st (x_iceq 152 150))]
set_option maxRecDepth 100000 in
set_option maxHeartbeats 4000000 in
theorem q_s113_1 (l : Launch) (s0 : State) : ∀ q ∈ q_k113_1, x_Sim (x_K s0) none l q_y113 q_c113 11 (some .boolean) q_w113 q.1 q.2 := by
  unfold q_k113_1
  refine List.forall_mem_cons.2 ⟨s_bipush (k := 99) (by decide +kernel) (by decide +kernel), ?_⟩
  refine List.forall_mem_cons.2 ⟨s_icmp_ge (off := 35) (by decide +kernel) (by decide), ?_⟩
  refine List.forall_mem_cons.2 ⟨s_iload (by decide +kernel), ?_⟩
  refine List.forall_mem_cons.2 ⟨s_iload (by decide +kernel), ?_⟩
  refine List.forall_mem_cons.2 ⟨s_icmp_eq (off := 28) (by decide +kernel) (by decide), ?_⟩
  refine List.forall_mem_cons.2 ⟨s_aload_n (k := 0) (by decide +kernel) rfl, ?_⟩
  refine List.forall_mem_cons.2 ⟨s_iload (by decide +kernel), ?_⟩
  refine List.forall_mem_cons.2 ⟨s_iload (by decide +kernel), ?_⟩
  refine List.forall_mem_cons.2 ⟨s_invokevirtual (idx := 174) (M := 112) (k := 2) (ci := 8) (C := q_n8) (T := q_T8) (N := 39) (ym := q_y112) (wm := q_w112) (by decide +kernel) rfl rfl rfl (x_gdV mw_741 mw_742 mw_743 mw_675 mw_740) rfl (by decide +kernel) (by decide), ?_⟩
  refine List.forall_mem_cons.2 ⟨s_ifeq (off := 5) (by decide +kernel) (by decide), ?_⟩
  refine List.forall_mem_cons.2 ⟨s_iconst (k := 0) (by decide +kernel) (by decide +kernel), ?_⟩
  refine List.forall_mem_cons.2 ⟨s_ireturn (ty := .boolean) (by decide +kernel) rfl, ?_⟩
  refine List.forall_mem_cons.2 ⟨s_aload_n (k := 0) (by decide +kernel) rfl, ?_⟩
  refine List.forall_mem_cons.2 ⟨s_getfield (C := q_n8) (T := q_T8) (N := 39) (idx := 66) (ref := "ProofDeskModel") (by decide +kernel) rfl q_in8 (by decide) (x_up mw_661) rfl, ?_⟩
  refine List.forall_mem_cons.2 ⟨s_iload (by decide +kernel), ?_⟩
  refine List.forall_mem_cons.2 ⟨s_iload (by decide +kernel), ?_⟩
  refine List.forall_mem_cons.2 ⟨s_iast (by decide +kernel) rfl, ?_⟩
  refine List.forall_mem_cons.2 ⟨s_goto (off := 124) (by decide +kernel) (by decide), ?_⟩
  refine List.forall_mem_cons.2 ⟨s_iload (by decide +kernel), ?_⟩
  refine List.forall_mem_cons.2 ⟨s_bipush (k := 99) (by decide +kernel) (by decide +kernel), ?_⟩
  refine List.forall_mem_cons.2 ⟨s_icmp_ge (off := 35) (by decide +kernel) (by decide), ?_⟩
  refine List.forall_mem_cons.2 ⟨s_iload (by decide +kernel), ?_⟩
  refine List.forall_mem_cons.2 ⟨s_iload (by decide +kernel), ?_⟩
  refine List.forall_mem_cons.2 ⟨s_icmp_eq (off := 28) (by decide +kernel) (by decide), ?_⟩
  refine List.forall_mem_cons.2 ⟨s_aload_n (k := 0) (by decide +kernel) rfl, ?_⟩
  refine List.forall_mem_cons.2 ⟨s_iload (by decide +kernel), ?_⟩
  refine List.forall_mem_cons.2 ⟨s_iload (by decide +kernel), ?_⟩
  refine List.forall_mem_cons.2 ⟨s_invokevirtual (idx := 174) (M := 112) (k := 2) (ci := 8) (C := q_n8) (T := q_T8) (N := 39) (ym := q_y112) (wm := q_w112) (by decide +kernel) rfl rfl rfl (x_gdV mw_741 mw_742 mw_743 mw_675 mw_740) rfl (by decide +kernel) (by decide), ?_⟩
  refine List.forall_mem_cons.2 ⟨s_ifeq (off := 5) (by decide +kernel) (by decide), ?_⟩
  refine List.forall_mem_cons.2 ⟨s_iconst (k := 0) (by decide +kernel) (by decide +kernel), ?_⟩
  refine List.forall_mem_cons.2 ⟨s_ireturn (ty := .boolean) (by decide +kernel) rfl, ?_⟩
  refine List.forall_mem_cons.2 ⟨s_aload_n (k := 0) (by decide +kernel) rfl, ?_⟩
  refine List.forall_mem_cons.2 ⟨s_getfield (C := q_n8) (T := q_T8) (N := 39) (idx := 66) (ref := "ProofDeskModel") (by decide +kernel) rfl q_in8 (by decide) (x_up mw_661) rfl, ?_⟩
  refine List.forall_mem_cons.2 ⟨s_iload (by decide +kernel), ?_⟩
  refine List.forall_mem_cons.2 ⟨s_iload (by decide +kernel), ?_⟩
  refine List.forall_mem_cons.2 ⟨s_iast (by decide +kernel) rfl, ?_⟩
  refine List.forall_mem_cons.2 ⟨s_goto (off := 85) (by decide +kernel) (by decide), ?_⟩
  refine List.forall_mem_cons.2 ⟨s_iload (by decide +kernel), ?_⟩
  refine List.forall_mem_cons.2 ⟨s_iload (by decide +kernel), ?_⟩
  refine List.forall_mem_cons.2 ⟨s_icmp_eq (off := 5) (by decide +kernel) (by decide), ?_⟩
  exact fun _ h => absurd h List.not_mem_nil
def q_k113_2 : List (Nat × xO) := [(150, x_st (x_push 151 (.int (0)))), (151, x_ri (.boolean)), (152, x_ldi 154 6), (154, x_st (x_push 156 (.int (99)))), (156, x_st (x_iclt 225 159)), (159, x_ldi 161 4), (161, x_st (x_push 162 (.int (1)))), (162, x_st (x_bin 163 (fun a b => a + b))), (163, x_sti 165 8), (165, x_ldi 167 5), (167, x_st (x_push 168 (.int (1)))), (168, x_st (x_bin 169 (fun a b => a + b))), (169, x_sti 171 9), (171, x_st (x_push 172 (.int (0)))), (172, x_sti 174 10), (174, x_ldi 176 10), (176, x_ldi 178 6), (178, x_cl_ 181 101 1), (181, x_st (x_icge 225 184)), (184, x_lda 185 0), (185, x_gf 188 8 31), (188, x_ldi 189 3), (189, x_ldi 191 8), (191, x_ast 192 0 (fun x => x)), (192, x_lda 193 0), (193, x_gf 196 8 32), (196, x_ldi 197 3), (197, x_ldi 199 9), (199, x_ast 200 0 (fun x => x)), (200, x_iinc 203 3 (1)), (203, x_lda 204 0), (204, x_ldi 206 8), (206, x_cv 209 109 2 8), (209, x_sti 211 8), (211, x_lda 212 0), (212, x_ldi 214 9), (214, x_cv 217 109 2 8), (217, x_sti 219 9), (219, x_iinc 222 10 (1)), (222, x_st (x_goto 174))]
set_option maxRecDepth 100000 in
set_option maxHeartbeats 4000000 in
theorem q_s113_2 (l : Launch) (s0 : State) : ∀ q ∈ q_k113_2, x_Sim (x_K s0) none l q_y113 q_c113 11 (some .boolean) q_w113 q.1 q.2 := by
  unfold q_k113_2
  refine List.forall_mem_cons.2 ⟨s_iconst (k := 0) (by decide +kernel) (by decide +kernel), ?_⟩
  refine List.forall_mem_cons.2 ⟨s_ireturn (ty := .boolean) (by decide +kernel) rfl, ?_⟩
  refine List.forall_mem_cons.2 ⟨s_iload (by decide +kernel), ?_⟩
  refine List.forall_mem_cons.2 ⟨s_bipush (k := 99) (by decide +kernel) (by decide +kernel), ?_⟩
  refine List.forall_mem_cons.2 ⟨s_icmp_lt (off := 69) (by decide +kernel) (by decide), ?_⟩
  refine List.forall_mem_cons.2 ⟨s_iload (by decide +kernel), ?_⟩
  refine List.forall_mem_cons.2 ⟨s_iconst (k := 1) (by decide +kernel) (by decide +kernel), ?_⟩
  refine List.forall_mem_cons.2 ⟨s_iadd (by decide +kernel), ?_⟩
  refine List.forall_mem_cons.2 ⟨s_istore (by decide +kernel) (by decide), ?_⟩
  refine List.forall_mem_cons.2 ⟨s_iload (by decide +kernel), ?_⟩
  refine List.forall_mem_cons.2 ⟨s_iconst (k := 1) (by decide +kernel) (by decide +kernel), ?_⟩
  refine List.forall_mem_cons.2 ⟨s_iadd (by decide +kernel), ?_⟩
  refine List.forall_mem_cons.2 ⟨s_istore (by decide +kernel) (by decide), ?_⟩
  refine List.forall_mem_cons.2 ⟨s_iconst (k := 0) (by decide +kernel) (by decide +kernel), ?_⟩
  refine List.forall_mem_cons.2 ⟨s_istore (by decide +kernel) (by decide), ?_⟩
  refine List.forall_mem_cons.2 ⟨s_iload (by decide +kernel), ?_⟩
  refine List.forall_mem_cons.2 ⟨s_iload (by decide +kernel), ?_⟩
  refine List.forall_mem_cons.2 ⟨s_invokestatic (idx := 122) (M := 101) (ym := q_y101) (wm := q_w101) (by decide +kernel) rfl rfl (x_gdS mw_691 mw_692 mw_675 mw_690) rfl (by decide +kernel) (by decide), ?_⟩
  refine List.forall_mem_cons.2 ⟨s_icmp_ge (off := 44) (by decide +kernel) (by decide), ?_⟩
  refine List.forall_mem_cons.2 ⟨s_aload_n (k := 0) (by decide +kernel) rfl, ?_⟩
  refine List.forall_mem_cons.2 ⟨s_getfield (C := q_n8) (T := q_T8) (N := 39) (idx := 69) (ref := "ProofDeskModel") (by decide +kernel) rfl q_in8 (by decide) (x_up mw_662) rfl, ?_⟩
  refine List.forall_mem_cons.2 ⟨s_iload_n (k := 3) (by decide +kernel) rfl, ?_⟩
  refine List.forall_mem_cons.2 ⟨s_iload (by decide +kernel), ?_⟩
  refine List.forall_mem_cons.2 ⟨s_iast (by decide +kernel) rfl, ?_⟩
  refine List.forall_mem_cons.2 ⟨s_aload_n (k := 0) (by decide +kernel) rfl, ?_⟩
  refine List.forall_mem_cons.2 ⟨s_getfield (C := q_n8) (T := q_T8) (N := 39) (idx := 72) (ref := "ProofDeskModel") (by decide +kernel) rfl q_in8 (by decide) (x_up mw_663) rfl, ?_⟩
  refine List.forall_mem_cons.2 ⟨s_iload_n (k := 3) (by decide +kernel) rfl, ?_⟩
  refine List.forall_mem_cons.2 ⟨s_iload (by decide +kernel), ?_⟩
  refine List.forall_mem_cons.2 ⟨s_iast (by decide +kernel) rfl, ?_⟩
  refine List.forall_mem_cons.2 ⟨s_iinc (k := 1) (by decide +kernel) (by decide +kernel) (by decide), ?_⟩
  refine List.forall_mem_cons.2 ⟨s_aload_n (k := 0) (by decide +kernel) rfl, ?_⟩
  refine List.forall_mem_cons.2 ⟨s_iload (by decide +kernel), ?_⟩
  refine List.forall_mem_cons.2 ⟨s_invokevirtual (idx := 168) (M := 109) (k := 1) (ci := 8) (C := q_n8) (T := q_T8) (N := 39) (ym := q_y109) (wm := q_w109) (by decide +kernel) rfl rfl rfl (x_gdV mw_733 mw_734 mw_735 mw_675 mw_732) rfl (by decide +kernel) (by decide), ?_⟩
  refine List.forall_mem_cons.2 ⟨s_istore (by decide +kernel) (by decide), ?_⟩
  refine List.forall_mem_cons.2 ⟨s_aload_n (k := 0) (by decide +kernel) rfl, ?_⟩
  refine List.forall_mem_cons.2 ⟨s_iload (by decide +kernel), ?_⟩
  refine List.forall_mem_cons.2 ⟨s_invokevirtual (idx := 168) (M := 109) (k := 1) (ci := 8) (C := q_n8) (T := q_T8) (N := 39) (ym := q_y109) (wm := q_w109) (by decide +kernel) rfl rfl rfl (x_gdV mw_733 mw_734 mw_735 mw_675 mw_732) rfl (by decide +kernel) (by decide), ?_⟩
  refine List.forall_mem_cons.2 ⟨s_istore (by decide +kernel) (by decide), ?_⟩
  refine List.forall_mem_cons.2 ⟨s_iinc (k := 1) (by decide +kernel) (by decide +kernel) (by decide), ?_⟩
  refine List.forall_mem_cons.2 ⟨s_goto (off := -48) (by decide +kernel) (by decide), ?_⟩
  exact fun _ h => absurd h List.not_mem_nil
def q_k113_3 : List (Nat × xO) := [(225, x_st (x_goto 16)), (228, x_st (x_push 229 (.int (1)))), (229, x_ri (.boolean))]
set_option maxRecDepth 100000 in
set_option maxHeartbeats 4000000 in
theorem q_s113_3 (l : Launch) (s0 : State) : ∀ q ∈ q_k113_3, x_Sim (x_K s0) none l q_y113 q_c113 11 (some .boolean) q_w113 q.1 q.2 := by
  unfold q_k113_3
  refine List.forall_mem_cons.2 ⟨s_goto (off := -209) (by decide +kernel) (by decide), ?_⟩
  refine List.forall_mem_cons.2 ⟨s_iconst (k := 1) (by decide +kernel) (by decide +kernel), ?_⟩
  refine List.forall_mem_cons.2 ⟨s_ireturn (ty := .boolean) (by decide +kernel) rfl, ?_⟩
  exact fun _ h => absurd h List.not_mem_nil
def q_k113 : List (Nat × xO) := q_k113_0 ++ q_k113_1 ++ q_k113_2 ++ q_k113_3
theorem q_s113 (l : Launch) (s0 : State) : ∀ q ∈ q_k113, x_Sim (x_K s0) none l q_y113 q_c113 11 (some .boolean) q_w113 q.1 q.2 := by
  intro q hq
  simp only [q_k113, List.mem_append] at hq
  rcases hq with ((h0 | h1) | h2) | h3
  · exact q_s113_0 l s0 q h0
  · exact q_s113_1 l s0 q h1
  · exact q_s113_2 l s0 q h2
  · exact q_s113_3 l s0 q h3
/-- ProofDeskModel.spread(II)V -/
def q_k114_0 : List (Nat × xO) := [(0, x_st (x_push 1 (.int (1)))), (1, x_sti 2 3), (2, x_lda 3 0), (3, x_gf 6 8 33), (6, x_st (x_push 7 (.int (0)))), (7, x_ldi 8 1), (8, x_ast 9 0 (fun x => x)), (9, x_lda 10 0), (10, x_gf 13 8 34), (13, x_st (x_push 14 (.int (0)))), (14, x_ldi 15 2), (15, x_ast 16 0 (fun x => x)), (16, x_ldi 17 3), (17, x_st (x_ifle 174 20)), (20, x_lda 21 0), (21, x_gf 24 8 24), (24, x_st (x_ifne 174 27)), (27, x_lda 28 0), (28, x_gf 31 8 33), (31, x_ldi 32 3), (32, x_st (x_push 33 (.int (1)))), (33, x_st (x_bin 34 (fun a b => a - b))), (34, x_ald 35 0), (35, x_sti 37 4), (37, x_ldi 39 4), (39, x_lda 40 0), (40, x_gf 43 8 34), (43, x_ldi 44 3), (44, x_st (x_push 45 (.int (1)))), (45, x_st (x_bin 46 (fun a b => a - b))), (46, x_ald 47 0), (47, x_st (x_icne 56 50)), (50, x_iinc 53 3 (-1)), (53, x_st (x_goto 171)), (56, x_lda 57 0), (57, x_gf 60 8 33), (60, x_ldi 61 3), (61, x_st (x_push 62 (.int (1)))), (62, x_st (x_bin 63 (fun a b => a - b))), (63, x_st (x_dup2 64))]
set_option maxRecDepth 100000 in
set_option maxHeartbeats 4000000 in
theorem q_s114_0 (l : Launch) (s0 : State) : ∀ q ∈ q_k114_0, x_Sim (x_K s0) none l q_y114 q_c114 6 none q_w114 q.1 q.2 := by
  unfold q_k114_0
  refine List.forall_mem_cons.2 ⟨s_iconst (k := 1) (by decide +kernel) (by decide +kernel), ?_⟩
  refine List.forall_mem_cons.2 ⟨s_istore_n (k := 3) (by decide +kernel) rfl (by decide), ?_⟩
  refine List.forall_mem_cons.2 ⟨s_aload_n (k := 0) (by decide +kernel) rfl, ?_⟩
  refine List.forall_mem_cons.2 ⟨s_getfield (C := q_n8) (T := q_T8) (N := 39) (idx := 75) (ref := "ProofDeskModel") (by decide +kernel) rfl q_in8 (by decide) (x_up mw_664) rfl, ?_⟩
  refine List.forall_mem_cons.2 ⟨s_iconst (k := 0) (by decide +kernel) (by decide +kernel), ?_⟩
  refine List.forall_mem_cons.2 ⟨s_iload_n (k := 1) (by decide +kernel) rfl, ?_⟩
  refine List.forall_mem_cons.2 ⟨s_iast (by decide +kernel) rfl, ?_⟩
  refine List.forall_mem_cons.2 ⟨s_aload_n (k := 0) (by decide +kernel) rfl, ?_⟩
  refine List.forall_mem_cons.2 ⟨s_getfield (C := q_n8) (T := q_T8) (N := 39) (idx := 78) (ref := "ProofDeskModel") (by decide +kernel) rfl q_in8 (by decide) (x_up mw_665) rfl, ?_⟩
  refine List.forall_mem_cons.2 ⟨s_iconst (k := 0) (by decide +kernel) (by decide +kernel), ?_⟩
  refine List.forall_mem_cons.2 ⟨s_iload_n (k := 2) (by decide +kernel) rfl, ?_⟩
  refine List.forall_mem_cons.2 ⟨s_iast (by decide +kernel) rfl, ?_⟩
  refine List.forall_mem_cons.2 ⟨s_iload_n (k := 3) (by decide +kernel) rfl, ?_⟩
  refine List.forall_mem_cons.2 ⟨s_ifle (off := 157) (by decide +kernel) (by decide), ?_⟩
  refine List.forall_mem_cons.2 ⟨s_aload_n (k := 0) (by decide +kernel) rfl, ?_⟩
  refine List.forall_mem_cons.2 ⟨s_getfield (C := q_n8) (T := q_T8) (N := 39) (idx := 178) (ref := "ProofDeskModel") (by decide +kernel) rfl q_in8 (by decide) (x_up mw_744) rfl, ?_⟩
  refine List.forall_mem_cons.2 ⟨s_ifne (off := 150) (by decide +kernel) (by decide), ?_⟩
  refine List.forall_mem_cons.2 ⟨s_aload_n (k := 0) (by decide +kernel) rfl, ?_⟩
  refine List.forall_mem_cons.2 ⟨s_getfield (C := q_n8) (T := q_T8) (N := 39) (idx := 75) (ref := "ProofDeskModel") (by decide +kernel) rfl q_in8 (by decide) (x_up mw_664) rfl, ?_⟩
  refine List.forall_mem_cons.2 ⟨s_iload_n (k := 3) (by decide +kernel) rfl, ?_⟩
  refine List.forall_mem_cons.2 ⟨s_iconst (k := 1) (by decide +kernel) (by decide +kernel), ?_⟩
  refine List.forall_mem_cons.2 ⟨s_isub (by decide +kernel), ?_⟩
  refine List.forall_mem_cons.2 ⟨s_iald (by decide +kernel) rfl, ?_⟩
  refine List.forall_mem_cons.2 ⟨s_istore (by decide +kernel) (by decide), ?_⟩
  refine List.forall_mem_cons.2 ⟨s_iload (by decide +kernel), ?_⟩
  refine List.forall_mem_cons.2 ⟨s_aload_n (k := 0) (by decide +kernel) rfl, ?_⟩
  refine List.forall_mem_cons.2 ⟨s_getfield (C := q_n8) (T := q_T8) (N := 39) (idx := 78) (ref := "ProofDeskModel") (by decide +kernel) rfl q_in8 (by decide) (x_up mw_665) rfl, ?_⟩
  refine List.forall_mem_cons.2 ⟨s_iload_n (k := 3) (by decide +kernel) rfl, ?_⟩
  refine List.forall_mem_cons.2 ⟨s_iconst (k := 1) (by decide +kernel) (by decide +kernel), ?_⟩
  refine List.forall_mem_cons.2 ⟨s_isub (by decide +kernel), ?_⟩
  refine List.forall_mem_cons.2 ⟨s_iald (by decide +kernel) rfl, ?_⟩
  refine List.forall_mem_cons.2 ⟨s_icmp_ne (off := 9) (by decide +kernel) (by decide), ?_⟩
  refine List.forall_mem_cons.2 ⟨s_iinc (k := -1) (by decide +kernel) (by decide +kernel) (by decide), ?_⟩
  refine List.forall_mem_cons.2 ⟨s_goto (off := 118) (by decide +kernel) (by decide), ?_⟩
  refine List.forall_mem_cons.2 ⟨s_aload_n (k := 0) (by decide +kernel) rfl, ?_⟩
  refine List.forall_mem_cons.2 ⟨s_getfield (C := q_n8) (T := q_T8) (N := 39) (idx := 75) (ref := "ProofDeskModel") (by decide +kernel) rfl q_in8 (by decide) (x_up mw_664) rfl, ?_⟩
  refine List.forall_mem_cons.2 ⟨s_iload_n (k := 3) (by decide +kernel) rfl, ?_⟩
  refine List.forall_mem_cons.2 ⟨s_iconst (k := 1) (by decide +kernel) (by decide +kernel), ?_⟩
  refine List.forall_mem_cons.2 ⟨s_isub (by decide +kernel), ?_⟩
  refine List.forall_mem_cons.2 ⟨s_dup2 (by decide +kernel), ?_⟩
  exact fun _ h => absurd h List.not_mem_nil
def q_k114_1 : List (Nat × xO) := [(64, x_ald 65 0), (65, x_st (x_push 66 (.int (1)))), (66, x_st (x_bin 67 (fun a b => a + b))), (67, x_ast 68 0 (fun x => x)), (68, x_lda 69 0), (69, x_gf 72 8 29), (72, x_ldi 74 4), (74, x_ald 75 0), (75, x_sti 77 5), (77, x_ldi 79 5), (79, x_st (x_push 81 (.int (99)))), (81, x_st (x_icge 130 84)), (84, x_lda 85 0), (85, x_gf 88 8 30), (88, x_ldi 90 5), (90, x_ald 91 0), (91, x_st (x_iflt 130 94)), (94, x_lda 95 0), (95, x_gf 98 8 33), (98, x_ldi 99 3), (99, x_lda 100 0), (100, x_gf 103 8 30), (103, x_ldi 105 5), (105, x_ald 106 0), (106, x_ast 107 0 (fun x => x)), (107, x_lda 108 0), (108, x_gf 111 8 34), (111, x_ldi 112 3), (112, x_lda 113 0), (113, x_lda 114 0), (114, x_gf 117 8 30), (117, x_ldi 119 5), (119, x_ald 120 0), (120, x_cv 123 109 2 8), (123, x_ast 124 0 (fun x => x)), (124, x_iinc 127 3 (1)), (127, x_st (x_goto 171)), (130, x_lda 131 0), (131, x_lda 132 0), (132, x_gf 135 8 21)]
set_option maxRecDepth 100000 in
set_option maxHeartbeats 4000000 in
theorem q_s114_1 (l : Launch) (s0 : State) : ∀ q ∈ q_k114_1, x_Sim (x_K s0) none l q_y114 q_c114 6 none q_w114 q.1 q.2 := by
  unfold q_k114_1
  refine List.forall_mem_cons.2 ⟨s_iald (by decide +kernel) rfl, ?_⟩
  refine List.forall_mem_cons.2 ⟨s_iconst (k := 1) (by decide +kernel) (by decide +kernel), ?_⟩
  refine List.forall_mem_cons.2 ⟨s_iadd (by decide +kernel), ?_⟩
  refine List.forall_mem_cons.2 ⟨s_iast (by decide +kernel) rfl, ?_⟩
  refine List.forall_mem_cons.2 ⟨s_aload_n (k := 0) (by decide +kernel) rfl, ?_⟩
  refine List.forall_mem_cons.2 ⟨s_getfield (C := q_n8) (T := q_T8) (N := 39) (idx := 63) (ref := "ProofDeskModel") (by decide +kernel) rfl q_in8 (by decide) (x_up mw_660) rfl, ?_⟩
  refine List.forall_mem_cons.2 ⟨s_iload (by decide +kernel), ?_⟩
  refine List.forall_mem_cons.2 ⟨s_iald (by decide +kernel) rfl, ?_⟩
  refine List.forall_mem_cons.2 ⟨s_istore (by decide +kernel) (by decide), ?_⟩
  refine List.forall_mem_cons.2 ⟨s_iload (by decide +kernel), ?_⟩
  refine List.forall_mem_cons.2 ⟨s_bipush (k := 99) (by decide +kernel) (by decide +kernel), ?_⟩
  refine List.forall_mem_cons.2 ⟨s_icmp_ge (off := 49) (by decide +kernel) (by decide), ?_⟩
  refine List.forall_mem_cons.2 ⟨s_aload_n (k := 0) (by decide +kernel) rfl, ?_⟩
  refine List.forall_mem_cons.2 ⟨s_getfield (C := q_n8) (T := q_T8) (N := 39) (idx := 66) (ref := "ProofDeskModel") (by decide +kernel) rfl q_in8 (by decide) (x_up mw_661) rfl, ?_⟩
  refine List.forall_mem_cons.2 ⟨s_iload (by decide +kernel), ?_⟩
  refine List.forall_mem_cons.2 ⟨s_iald (by decide +kernel) rfl, ?_⟩
  refine List.forall_mem_cons.2 ⟨s_iflt (off := 39) (by decide +kernel) (by decide), ?_⟩
  refine List.forall_mem_cons.2 ⟨s_aload_n (k := 0) (by decide +kernel) rfl, ?_⟩
  refine List.forall_mem_cons.2 ⟨s_getfield (C := q_n8) (T := q_T8) (N := 39) (idx := 75) (ref := "ProofDeskModel") (by decide +kernel) rfl q_in8 (by decide) (x_up mw_664) rfl, ?_⟩
  refine List.forall_mem_cons.2 ⟨s_iload_n (k := 3) (by decide +kernel) rfl, ?_⟩
  refine List.forall_mem_cons.2 ⟨s_aload_n (k := 0) (by decide +kernel) rfl, ?_⟩
  refine List.forall_mem_cons.2 ⟨s_getfield (C := q_n8) (T := q_T8) (N := 39) (idx := 66) (ref := "ProofDeskModel") (by decide +kernel) rfl q_in8 (by decide) (x_up mw_661) rfl, ?_⟩
  refine List.forall_mem_cons.2 ⟨s_iload (by decide +kernel), ?_⟩
  refine List.forall_mem_cons.2 ⟨s_iald (by decide +kernel) rfl, ?_⟩
  refine List.forall_mem_cons.2 ⟨s_iast (by decide +kernel) rfl, ?_⟩
  refine List.forall_mem_cons.2 ⟨s_aload_n (k := 0) (by decide +kernel) rfl, ?_⟩
  refine List.forall_mem_cons.2 ⟨s_getfield (C := q_n8) (T := q_T8) (N := 39) (idx := 78) (ref := "ProofDeskModel") (by decide +kernel) rfl q_in8 (by decide) (x_up mw_665) rfl, ?_⟩
  refine List.forall_mem_cons.2 ⟨s_iload_n (k := 3) (by decide +kernel) rfl, ?_⟩
  refine List.forall_mem_cons.2 ⟨s_aload_n (k := 0) (by decide +kernel) rfl, ?_⟩
  refine List.forall_mem_cons.2 ⟨s_aload_n (k := 0) (by decide +kernel) rfl, ?_⟩
  refine List.forall_mem_cons.2 ⟨s_getfield (C := q_n8) (T := q_T8) (N := 39) (idx := 66) (ref := "ProofDeskModel") (by decide +kernel) rfl q_in8 (by decide) (x_up mw_661) rfl, ?_⟩
  refine List.forall_mem_cons.2 ⟨s_iload (by decide +kernel), ?_⟩
  refine List.forall_mem_cons.2 ⟨s_iald (by decide +kernel) rfl, ?_⟩
  refine List.forall_mem_cons.2 ⟨s_invokevirtual (idx := 168) (M := 109) (k := 1) (ci := 8) (C := q_n8) (T := q_T8) (N := 39) (ym := q_y109) (wm := q_w109) (by decide +kernel) rfl rfl rfl (x_gdV mw_733 mw_734 mw_735 mw_675 mw_732) rfl (by decide +kernel) (by decide), ?_⟩
  refine List.forall_mem_cons.2 ⟨s_iast (by decide +kernel) rfl, ?_⟩
  refine List.forall_mem_cons.2 ⟨s_iinc (k := 1) (by decide +kernel) (by decide +kernel) (by decide), ?_⟩
  refine List.forall_mem_cons.2 ⟨s_goto (off := 44) (by decide +kernel) (by decide), ?_⟩
  refine List.forall_mem_cons.2 ⟨s_aload_n (k := 0) (by decide +kernel) rfl, ?_⟩
  refine List.forall_mem_cons.2 ⟨s_aload_n (k := 0) (by decide +kernel) rfl, ?_⟩
  refine List.forall_mem_cons.2 ⟨s_getfield (C := q_n8) (T := q_T8) (N := 39) (idx := 101) (ref := "ProofDeskModel") (by decide +kernel) rfl q_in8 (by decide) (x_up mw_676) rfl, ?_⟩
  exact fun _ h => absurd h List.not_mem_nil
def q_k114_2 : List (Nat × xO) := [(135, x_lda 136 0), (136, x_gf 139 8 18), (139, x_lda 140 0), (140, x_gf 143 8 22), (143, x_ald 144 0), (144, x_st (x_bin 145 (fun a b => a - b))), (145, x_st (x_push 147 (.int (40)))), (147, x_st (x_iclt 154 150)), (150, x_st (x_push 151 (.int (1)))), (151, x_st (x_goto 155)), (154, x_st (x_push 155 (.int (0)))), (155, x_pf 158 8 24 (.boolean)), (158, x_lda 159 0), (159, x_gf 162 8 24), (162, x_st (x_ifne 171 165)), (165, x_lda 166 0), (166, x_ldi 168 5), (168, x_cv 171 98 2 8), (171, x_st (x_goto 16)), (174, x_rv)]
set_option maxRecDepth 100000 in
set_option maxHeartbeats 4000000 in
theorem q_s114_2 (l : Launch) (s0 : State) : ∀ q ∈ q_k114_2, x_Sim (x_K s0) none l q_y114 q_c114 6 none q_w114 q.1 q.2 := by
  unfold q_k114_2
  refine List.forall_mem_cons.2 ⟨s_aload_n (k := 0) (by decide +kernel) rfl, ?_⟩
  refine List.forall_mem_cons.2 ⟨s_getfield (C := q_n8) (T := q_T8) (N := 39) (idx := 45) (ref := "ProofDeskModel") (by decide +kernel) rfl q_in8 (by decide) (x_up mw_654) rfl, ?_⟩
  refine List.forall_mem_cons.2 ⟨s_aload_n (k := 0) (by decide +kernel) rfl, ?_⟩
  refine List.forall_mem_cons.2 ⟨s_getfield (C := q_n8) (T := q_T8) (N := 39) (idx := 130) (ref := "ProofDeskModel") (by decide +kernel) rfl q_in8 (by decide) (x_up mw_697) rfl, ?_⟩
  refine List.forall_mem_cons.2 ⟨s_iald (by decide +kernel) rfl, ?_⟩
  refine List.forall_mem_cons.2 ⟨s_isub (by decide +kernel), ?_⟩
  refine List.forall_mem_cons.2 ⟨s_bipush (k := 40) (by decide +kernel) (by decide +kernel), ?_⟩
  refine List.forall_mem_cons.2 ⟨s_icmp_lt (off := 7) (by decide +kernel) (by decide), ?_⟩
  refine List.forall_mem_cons.2 ⟨s_iconst (k := 1) (by decide +kernel) (by decide +kernel), ?_⟩
  refine List.forall_mem_cons.2 ⟨s_goto (off := 4) (by decide +kernel) (by decide), ?_⟩
  refine List.forall_mem_cons.2 ⟨s_iconst (k := 0) (by decide +kernel) (by decide +kernel), ?_⟩
  refine List.forall_mem_cons.2 ⟨s_putfield (C := q_n8) (T := q_T8) (N := 39) (idx := 178) (ref := "ProofDeskModel") q_t8 (by decide +kernel) rfl q_in8 q_ty8 q_nm8 (by decide) (x_up mw_744) rfl rfl (by decide +kernel), ?_⟩
  refine List.forall_mem_cons.2 ⟨s_aload_n (k := 0) (by decide +kernel) rfl, ?_⟩
  refine List.forall_mem_cons.2 ⟨s_getfield (C := q_n8) (T := q_T8) (N := 39) (idx := 178) (ref := "ProofDeskModel") (by decide +kernel) rfl q_in8 (by decide) (x_up mw_744) rfl, ?_⟩
  refine List.forall_mem_cons.2 ⟨s_ifne (off := 9) (by decide +kernel) (by decide), ?_⟩
  refine List.forall_mem_cons.2 ⟨s_aload_n (k := 0) (by decide +kernel) rfl, ?_⟩
  refine List.forall_mem_cons.2 ⟨s_iload (by decide +kernel), ?_⟩
  refine List.forall_mem_cons.2 ⟨s_invokevirtual (idx := 111) (M := 98) (k := 1) (ci := 8) (C := q_n8) (T := q_T8) (N := 39) (ym := q_y98) (wm := q_w98) (by decide +kernel) rfl rfl rfl (x_gdV mw_680 mw_681 mw_682 mw_675 mw_679) rfl (by decide +kernel) (by decide), ?_⟩
  refine List.forall_mem_cons.2 ⟨s_goto (off := -155) (by decide +kernel) (by decide), ?_⟩
  refine List.forall_mem_cons.2 ⟨s_return (by decide +kernel) rfl, ?_⟩
  exact fun _ h => absurd h List.not_mem_nil
def q_k114 : List (Nat × xO) := q_k114_0 ++ q_k114_1 ++ q_k114_2
theorem q_s114 (l : Launch) (s0 : State) : ∀ q ∈ q_k114, x_Sim (x_K s0) none l q_y114 q_c114 6 none q_w114 q.1 q.2 := by
  intro q hq
  simp only [q_k114, List.mem_append] at hq
  rcases hq with (h0 | h1) | h2
  · exact q_s114_0 l s0 q h0
  · exact q_s114_1 l s0 q h1
  · exact q_s114_2 l s0 q h2
/-- ProofDeskModel.beginLiteral(Z)V -/
def q_k115_0 : List (Nat × xO) := [(0, x_lda 1 0), (1, x_gf 4 8 18), (4, x_lda 5 0), (5, x_gf 8 8 22), (8, x_lda 9 0), (9, x_gf 12 8 21), (12, x_ast 13 0 (fun x => x)), (13, x_lda 14 0), (14, x_gf 17 8 20), (17, x_lda 18 0), (18, x_gf 21 8 22), (21, x_ldi 22 1), (22, x_ast 23 1 (fun x => vp_nar .boolean x)), (23, x_rv)]
set_option maxRecDepth 100000 in
set_option maxHeartbeats 4000000 in
theorem q_s115_0 (l : Launch) (s0 : State) : ∀ q ∈ q_k115_0, x_Sim (x_K s0) none l q_y115 q_c115 2 none q_w115 q.1 q.2 := by
  unfold q_k115_0
  refine List.forall_mem_cons.2 ⟨s_aload_n (k := 0) (by decide +kernel) rfl, ?_⟩
  refine List.forall_mem_cons.2 ⟨s_getfield (C := q_n8) (T := q_T8) (N := 39) (idx := 45) (ref := "ProofDeskModel") (by decide +kernel) rfl q_in8 (by decide) (x_up mw_654) rfl, ?_⟩
  refine List.forall_mem_cons.2 ⟨s_aload_n (k := 0) (by decide +kernel) rfl, ?_⟩
  refine List.forall_mem_cons.2 ⟨s_getfield (C := q_n8) (T := q_T8) (N := 39) (idx := 130) (ref := "ProofDeskModel") (by decide +kernel) rfl q_in8 (by decide) (x_up mw_697) rfl, ?_⟩
  refine List.forall_mem_cons.2 ⟨s_aload_n (k := 0) (by decide +kernel) rfl, ?_⟩
  refine List.forall_mem_cons.2 ⟨s_getfield (C := q_n8) (T := q_T8) (N := 39) (idx := 101) (ref := "ProofDeskModel") (by decide +kernel) rfl q_in8 (by decide) (x_up mw_676) rfl, ?_⟩
  refine List.forall_mem_cons.2 ⟨s_iast (by decide +kernel) rfl, ?_⟩
  refine List.forall_mem_cons.2 ⟨s_aload_n (k := 0) (by decide +kernel) rfl, ?_⟩
  refine List.forall_mem_cons.2 ⟨s_getfield (C := q_n8) (T := q_T8) (N := 39) (idx := 51) (ref := "ProofDeskModel") (by decide +kernel) rfl q_in8 (by decide) (x_up mw_656) rfl, ?_⟩
  refine List.forall_mem_cons.2 ⟨s_aload_n (k := 0) (by decide +kernel) rfl, ?_⟩
  refine List.forall_mem_cons.2 ⟨s_getfield (C := q_n8) (T := q_T8) (N := 39) (idx := 130) (ref := "ProofDeskModel") (by decide +kernel) rfl q_in8 (by decide) (x_up mw_697) rfl, ?_⟩
  refine List.forall_mem_cons.2 ⟨s_iload_n (k := 1) (by decide +kernel) rfl, ?_⟩
  refine List.forall_mem_cons.2 ⟨s_zast (by decide +kernel) rfl, ?_⟩
  refine List.forall_mem_cons.2 ⟨s_return (by decide +kernel) rfl, ?_⟩
  exact fun _ h => absurd h List.not_mem_nil
def q_k115 : List (Nat × xO) := q_k115_0
theorem q_s115 (l : Launch) (s0 : State) : ∀ q ∈ q_k115, x_Sim (x_K s0) none l q_y115 q_c115 2 none q_w115 q.1 q.2 := q_s115_0 l s0
/-- ProofDeskModel.endLiteral()V -/
def q_k116_0 : List (Nat × xO) := [(0, x_lda 1 0), (1, x_st (x_dup 2)), (2, x_gf 5 8 22), (5, x_st (x_push 6 (.int (1)))), (6, x_st (x_bin 7 (fun a b => a + b))), (7, x_pf 10 8 22 (.int)), (10, x_lda 11 0), (11, x_gf 14 8 18), (14, x_lda 15 0), (15, x_gf 18 8 22), (18, x_lda 19 0), (19, x_gf 22 8 21), (22, x_ast 23 0 (fun x => x)), (23, x_lda 24 0), (24, x_gf 27 8 24), (27, x_st (x_ifne 66 30)), (30, x_lda 31 0), (31, x_lda 32 0), (32, x_gf 35 8 22), (35, x_st (x_push 36 (.int (1)))), (36, x_st (x_bin 37 (fun a b => a - b))), (37, x_cv 40 104 2 8), (40, x_st (x_ifeq 66 43)), (43, x_lda 44 0), (44, x_st (x_dup 45)), (45, x_gf 48 8 22), (48, x_st (x_push 49 (.int (1)))), (49, x_st (x_bin 50 (fun a b => a - b))), (50, x_pf 53 8 22 (.int)), (53, x_lda 54 0), (54, x_lda 55 0), (55, x_gf 58 8 18), (58, x_lda 59 0), (59, x_gf 62 8 22), (62, x_ald 63 0), (63, x_pf 66 8 21 (.int)), (66, x_rv)]
set_option maxRecDepth 100000 in
set_option maxHeartbeats 4000000 in
theorem q_s116_0 (l : Launch) (s0 : State) : ∀ q ∈ q_k116_0, x_Sim (x_K s0) none l q_y116 q_c116 1 none q_w116 q.1 q.2 := by
  unfold q_k116_0
  refine List.forall_mem_cons.2 ⟨s_aload_n (k := 0) (by decide +kernel) rfl, ?_⟩
  refine List.forall_mem_cons.2 ⟨s_dup (by decide +kernel), ?_⟩
  refine List.forall_mem_cons.2 ⟨s_getfield (C := q_n8) (T := q_T8) (N := 39) (idx := 130) (ref := "ProofDeskModel") (by decide +kernel) rfl q_in8 (by decide) (x_up mw_697) rfl, ?_⟩
  refine List.forall_mem_cons.2 ⟨s_iconst (k := 1) (by decide +kernel) (by decide +kernel), ?_⟩
  refine List.forall_mem_cons.2 ⟨s_iadd (by decide +kernel), ?_⟩
  refine List.forall_mem_cons.2 ⟨s_putfield (C := q_n8) (T := q_T8) (N := 39) (idx := 130) (ref := "ProofDeskModel") q_t8 (by decide +kernel) rfl q_in8 q_ty8 q_nm8 (by decide) (x_up mw_697) rfl rfl (by decide +kernel), ?_⟩
  refine List.forall_mem_cons.2 ⟨s_aload_n (k := 0) (by decide +kernel) rfl, ?_⟩
  refine List.forall_mem_cons.2 ⟨s_getfield (C := q_n8) (T := q_T8) (N := 39) (idx := 45) (ref := "ProofDeskModel") (by decide +kernel) rfl q_in8 (by decide) (x_up mw_654) rfl, ?_⟩
  refine List.forall_mem_cons.2 ⟨s_aload_n (k := 0) (by decide +kernel) rfl, ?_⟩
  refine List.forall_mem_cons.2 ⟨s_getfield (C := q_n8) (T := q_T8) (N := 39) (idx := 130) (ref := "ProofDeskModel") (by decide +kernel) rfl q_in8 (by decide) (x_up mw_697) rfl, ?_⟩
  refine List.forall_mem_cons.2 ⟨s_aload_n (k := 0) (by decide +kernel) rfl, ?_⟩
  refine List.forall_mem_cons.2 ⟨s_getfield (C := q_n8) (T := q_T8) (N := 39) (idx := 101) (ref := "ProofDeskModel") (by decide +kernel) rfl q_in8 (by decide) (x_up mw_676) rfl, ?_⟩
  refine List.forall_mem_cons.2 ⟨s_iast (by decide +kernel) rfl, ?_⟩
  refine List.forall_mem_cons.2 ⟨s_aload_n (k := 0) (by decide +kernel) rfl, ?_⟩
  refine List.forall_mem_cons.2 ⟨s_getfield (C := q_n8) (T := q_T8) (N := 39) (idx := 178) (ref := "ProofDeskModel") (by decide +kernel) rfl q_in8 (by decide) (x_up mw_744) rfl, ?_⟩
  refine List.forall_mem_cons.2 ⟨s_ifne (off := 39) (by decide +kernel) (by decide), ?_⟩
  refine List.forall_mem_cons.2 ⟨s_aload_n (k := 0) (by decide +kernel) rfl, ?_⟩
  refine List.forall_mem_cons.2 ⟨s_aload_n (k := 0) (by decide +kernel) rfl, ?_⟩
  refine List.forall_mem_cons.2 ⟨s_getfield (C := q_n8) (T := q_T8) (N := 39) (idx := 130) (ref := "ProofDeskModel") (by decide +kernel) rfl q_in8 (by decide) (x_up mw_697) rfl, ?_⟩
  refine List.forall_mem_cons.2 ⟨s_iconst (k := 1) (by decide +kernel) (by decide +kernel), ?_⟩
  refine List.forall_mem_cons.2 ⟨s_isub (by decide +kernel), ?_⟩
  refine List.forall_mem_cons.2 ⟨s_invokevirtual (idx := 140) (M := 104) (k := 1) (ci := 8) (C := q_n8) (T := q_T8) (N := 39) (ym := q_y104) (wm := q_w104) (by decide +kernel) rfl rfl rfl (x_gdV mw_707 mw_708 mw_709 mw_675 mw_706) rfl (by decide +kernel) (by decide), ?_⟩
  refine List.forall_mem_cons.2 ⟨s_ifeq (off := 26) (by decide +kernel) (by decide), ?_⟩
  refine List.forall_mem_cons.2 ⟨s_aload_n (k := 0) (by decide +kernel) rfl, ?_⟩
  refine List.forall_mem_cons.2 ⟨s_dup (by decide +kernel), ?_⟩
  refine List.forall_mem_cons.2 ⟨s_getfield (C := q_n8) (T := q_T8) (N := 39) (idx := 130) (ref := "ProofDeskModel") (by decide +kernel) rfl q_in8 (by decide) (x_up mw_697) rfl, ?_⟩
  refine List.forall_mem_cons.2 ⟨s_iconst (k := 1) (by decide +kernel) (by decide +kernel), ?_⟩
  refine List.forall_mem_cons.2 ⟨s_isub (by decide +kernel), ?_⟩
  refine List.forall_mem_cons.2 ⟨s_putfield (C := q_n8) (T := q_T8) (N := 39) (idx := 130) (ref := "ProofDeskModel") q_t8 (by decide +kernel) rfl q_in8 q_ty8 q_nm8 (by decide) (x_up mw_697) rfl rfl (by decide +kernel), ?_⟩
  refine List.forall_mem_cons.2 ⟨s_aload_n (k := 0) (by decide +kernel) rfl, ?_⟩
  refine List.forall_mem_cons.2 ⟨s_aload_n (k := 0) (by decide +kernel) rfl, ?_⟩
  refine List.forall_mem_cons.2 ⟨s_getfield (C := q_n8) (T := q_T8) (N := 39) (idx := 45) (ref := "ProofDeskModel") (by decide +kernel) rfl q_in8 (by decide) (x_up mw_654) rfl, ?_⟩
  refine List.forall_mem_cons.2 ⟨s_aload_n (k := 0) (by decide +kernel) rfl, ?_⟩
  refine List.forall_mem_cons.2 ⟨s_getfield (C := q_n8) (T := q_T8) (N := 39) (idx := 130) (ref := "ProofDeskModel") (by decide +kernel) rfl q_in8 (by decide) (x_up mw_697) rfl, ?_⟩
  refine List.forall_mem_cons.2 ⟨s_iald (by decide +kernel) rfl, ?_⟩
  refine List.forall_mem_cons.2 ⟨s_putfield (C := q_n8) (T := q_T8) (N := 39) (idx := 101) (ref := "ProofDeskModel") q_t8 (by decide +kernel) rfl q_in8 q_ty8 q_nm8 (by decide) (x_up mw_676) rfl rfl (by decide +kernel), ?_⟩
  refine List.forall_mem_cons.2 ⟨s_return (by decide +kernel) rfl, ?_⟩
  exact fun _ h => absurd h List.not_mem_nil
def q_k116 : List (Nat × xO) := q_k116_0
theorem q_s116 (l : Launch) (s0 : State) : ∀ q ∈ q_k116, x_Sim (x_K s0) none l q_y116 q_c116 1 none q_w116 q.1 q.2 := q_s116_0 l s0
/-- ProofDeskModel.others(III)V -/
def q_k117_0 : List (Nat × xO) := [(0, x_st (x_push 1 (.int (0)))), (1, x_sti 3 4), (3, x_ldi 5 4), (5, x_lda 6 0), (6, x_gf 9 8 5), (9, x_ldi 10 1), (10, x_ald 11 0), (11, x_st (x_icge 87 14)), (14, x_lda 15 0), (15, x_gf 18 8 24), (18, x_st (x_ifne 87 21)), (21, x_ldi 23 4), (23, x_ldi 24 3), (24, x_st (x_iceq 81 27)), (27, x_lda 28 0), (28, x_lda 29 0), (29, x_gf 32 8 8), (32, x_st (x_push 34 (.int (7)))), (34, x_ldi 35 1), (35, x_st (x_bin 36 (fun a b => a * b))), (36, x_ldi 38 4), (38, x_st (x_bin 39 (fun a b => a + b))), (39, x_ald 40 1), (40, x_cv 43 115 2 8), (43, x_lda 44 0), (44, x_ldi 45 2), (45, x_lda 46 0), (46, x_gf 49 8 4), (49, x_st (x_push 51 (.int (7)))), (51, x_ldi 52 1), (52, x_st (x_bin 53 (fun a b => a * b))), (53, x_ldi 55 4), (55, x_st (x_bin 56 (fun a b => a + b))), (56, x_ald 57 0), (57, x_st (x_bin 58 (fun a b => a + b))), (58, x_ldi 59 2), (59, x_lda 60 0), (60, x_gf 63 8 4), (63, x_st (x_push 65 (.int (7)))), (65, x_ldi 66 1)]
set_option maxRecDepth 100000 in
set_option maxHeartbeats 4000000 in
theorem q_s117_0 (l : Launch) (s0 : State) : ∀ q ∈ q_k117_0, x_Sim (x_K s0) none l q_y117 q_c117 5 none q_w117 q.1 q.2 := by
  unfold q_k117_0
  refine List.forall_mem_cons.2 ⟨s_iconst (k := 0) (by decide +kernel) (by decide +kernel), ?_⟩
  refine List.forall_mem_cons.2 ⟨s_istore (by decide +kernel) (by decide), ?_⟩
  refine List.forall_mem_cons.2 ⟨s_iload (by decide +kernel), ?_⟩
  refine List.forall_mem_cons.2 ⟨s_aload_n (k := 0) (by decide +kernel) rfl, ?_⟩
  refine List.forall_mem_cons.2 ⟨s_getfield (C := q_n8) (T := q_T8) (N := 39) (idx := 16) (ref := "ProofDeskModel") (by decide +kernel) rfl q_in8 (by decide) (x_up mw_645) rfl, ?_⟩
  refine List.forall_mem_cons.2 ⟨s_iload_n (k := 1) (by decide +kernel) rfl, ?_⟩
  refine List.forall_mem_cons.2 ⟨s_iald (by decide +kernel) rfl, ?_⟩
  refine List.forall_mem_cons.2 ⟨s_icmp_ge (off := 76) (by decide +kernel) (by decide), ?_⟩
  refine List.forall_mem_cons.2 ⟨s_aload_n (k := 0) (by decide +kernel) rfl, ?_⟩
  refine List.forall_mem_cons.2 ⟨s_getfield (C := q_n8) (T := q_T8) (N := 39) (idx := 178) (ref := "ProofDeskModel") (by decide +kernel) rfl q_in8 (by decide) (x_up mw_744) rfl, ?_⟩
  refine List.forall_mem_cons.2 ⟨s_ifne (off := 69) (by decide +kernel) (by decide), ?_⟩
  refine List.forall_mem_cons.2 ⟨s_iload (by decide +kernel), ?_⟩
  refine List.forall_mem_cons.2 ⟨s_iload_n (k := 3) (by decide +kernel) rfl, ?_⟩
  refine List.forall_mem_cons.2 ⟨s_icmp_eq (off := 57) (by decide +kernel) (by decide), ?_⟩
  refine List.forall_mem_cons.2 ⟨s_aload_n (k := 0) (by decide +kernel) rfl, ?_⟩
  refine List.forall_mem_cons.2 ⟨s_aload_n (k := 0) (by decide +kernel) rfl, ?_⟩
  refine List.forall_mem_cons.2 ⟨s_getfield (C := q_n8) (T := q_T8) (N := 39) (idx := 25) (ref := "ProofDeskModel") (by decide +kernel) rfl q_in8 (by decide) (x_up mw_648) rfl, ?_⟩
  refine List.forall_mem_cons.2 ⟨s_bipush (k := 7) (by decide +kernel) (by decide +kernel), ?_⟩
  refine List.forall_mem_cons.2 ⟨s_iload_n (k := 1) (by decide +kernel) rfl, ?_⟩
  refine List.forall_mem_cons.2 ⟨s_imul (by decide +kernel), ?_⟩
  refine List.forall_mem_cons.2 ⟨s_iload (by decide +kernel), ?_⟩
  refine List.forall_mem_cons.2 ⟨s_iadd (by decide +kernel), ?_⟩
  refine List.forall_mem_cons.2 ⟨s_zald (by decide +kernel) rfl, ?_⟩
  refine List.forall_mem_cons.2 ⟨s_invokevirtual (idx := 181) (M := 115) (k := 1) (ci := 8) (C := q_n8) (T := q_T8) (N := 39) (ym := q_y115) (wm := q_w115) (by decide +kernel) rfl rfl rfl (x_gdV mw_746 mw_747 mw_748 mw_675 mw_745) rfl (by decide +kernel) (by decide), ?_⟩
  refine List.forall_mem_cons.2 ⟨s_aload_n (k := 0) (by decide +kernel) rfl, ?_⟩
  refine List.forall_mem_cons.2 ⟨s_iload_n (k := 2) (by decide +kernel) rfl, ?_⟩
  refine List.forall_mem_cons.2 ⟨s_aload_n (k := 0) (by decide +kernel) rfl, ?_⟩
  refine List.forall_mem_cons.2 ⟨s_getfield (C := q_n8) (T := q_T8) (N := 39) (idx := 13) (ref := "ProofDeskModel") (by decide +kernel) rfl q_in8 (by decide) (x_up mw_644) rfl, ?_⟩
  refine List.forall_mem_cons.2 ⟨s_bipush (k := 7) (by decide +kernel) (by decide +kernel), ?_⟩
  refine List.forall_mem_cons.2 ⟨s_iload_n (k := 1) (by decide +kernel) rfl, ?_⟩
  refine List.forall_mem_cons.2 ⟨s_imul (by decide +kernel), ?_⟩
  refine List.forall_mem_cons.2 ⟨s_iload (by decide +kernel), ?_⟩
  refine List.forall_mem_cons.2 ⟨s_iadd (by decide +kernel), ?_⟩
  refine List.forall_mem_cons.2 ⟨s_iald (by decide +kernel) rfl, ?_⟩
  refine List.forall_mem_cons.2 ⟨s_iadd (by decide +kernel), ?_⟩
  refine List.forall_mem_cons.2 ⟨s_iload_n (k := 2) (by decide +kernel) rfl, ?_⟩
  refine List.forall_mem_cons.2 ⟨s_aload_n (k := 0) (by decide +kernel) rfl, ?_⟩
  refine List.forall_mem_cons.2 ⟨s_getfield (C := q_n8) (T := q_T8) (N := 39) (idx := 13) (ref := "ProofDeskModel") (by decide +kernel) rfl q_in8 (by decide) (x_up mw_644) rfl, ?_⟩
  refine List.forall_mem_cons.2 ⟨s_bipush (k := 7) (by decide +kernel) (by decide +kernel), ?_⟩
  refine List.forall_mem_cons.2 ⟨s_iload_n (k := 1) (by decide +kernel) rfl, ?_⟩
  exact fun _ h => absurd h List.not_mem_nil
def q_k117_1 : List (Nat × xO) := [(66, x_st (x_bin 67 (fun a b => a * b))), (67, x_ldi 69 4), (69, x_st (x_bin 70 (fun a b => a + b))), (70, x_st (x_push 71 (.int (1)))), (71, x_st (x_bin 72 (fun a b => a + b))), (72, x_ald 73 0), (73, x_st (x_bin 74 (fun a b => a + b))), (74, x_cv 77 114 3 8), (77, x_lda 78 0), (78, x_cv 81 116 1 8), (81, x_iinc 84 4 (1)), (84, x_st (x_goto 3)), (87, x_rv)]
set_option maxRecDepth 100000 in
set_option maxHeartbeats 4000000 in
theorem q_s117_1 (l : Launch) (s0 : State) : ∀ q ∈ q_k117_1, x_Sim (x_K s0) none l q_y117 q_c117 5 none q_w117 q.1 q.2 := by
  unfold q_k117_1
  refine List.forall_mem_cons.2 ⟨s_imul (by decide +kernel), ?_⟩
  refine List.forall_mem_cons.2 ⟨s_iload (by decide +kernel), ?_⟩
  refine List.forall_mem_cons.2 ⟨s_iadd (by decide +kernel), ?_⟩
  refine List.forall_mem_cons.2 ⟨s_iconst (k := 1) (by decide +kernel) (by decide +kernel), ?_⟩
  refine List.forall_mem_cons.2 ⟨s_iadd (by decide +kernel), ?_⟩
  refine List.forall_mem_cons.2 ⟨s_iald (by decide +kernel) rfl, ?_⟩
  refine List.forall_mem_cons.2 ⟨s_iadd (by decide +kernel), ?_⟩
  refine List.forall_mem_cons.2 ⟨s_invokevirtual (idx := 185) (M := 114) (k := 2) (ci := 8) (C := q_n8) (T := q_T8) (N := 39) (ym := q_y114) (wm := q_w114) (by decide +kernel) rfl rfl rfl (x_gdV mw_750 mw_751 mw_752 mw_675 mw_749) rfl (by decide +kernel) (by decide), ?_⟩
  refine List.forall_mem_cons.2 ⟨s_aload_n (k := 0) (by decide +kernel) rfl, ?_⟩
  refine List.forall_mem_cons.2 ⟨s_invokevirtual (idx := 188) (M := 116) (k := 0) (ci := 8) (C := q_n8) (T := q_T8) (N := 39) (ym := q_y116) (wm := q_w116) (by decide +kernel) rfl rfl rfl (x_gdV mw_754 mw_755 mw_756 mw_675 mw_753) rfl (by decide +kernel) (by decide), ?_⟩
  refine List.forall_mem_cons.2 ⟨s_iinc (k := 1) (by decide +kernel) (by decide +kernel) (by decide), ?_⟩
  refine List.forall_mem_cons.2 ⟨s_goto (off := -81) (by decide +kernel) (by decide), ?_⟩
  refine List.forall_mem_cons.2 ⟨s_return (by decide +kernel) rfl, ?_⟩
  exact fun _ h => absurd h List.not_mem_nil
def q_k117 : List (Nat × xO) := q_k117_0 ++ q_k117_1
theorem q_s117 (l : Launch) (s0 : State) : ∀ q ∈ q_k117, x_Sim (x_K s0) none l q_y117 q_c117 5 none q_w117 q.1 q.2 := by
  intro q hq
  simp only [q_k117, List.mem_append] at hq
  rcases hq with h0 | h1
  · exact q_s117_0 l s0 q h0
  · exact q_s117_1 l s0 q h1
/-- ProofDeskModel.termAt(III)I -/
def q_k118_0 : List (Nat × xO) := [(0, x_st (x_push 1 (.int (0)))), (1, x_sti 3 4), (3, x_ldi 4 1), (4, x_st (x_push 5 (.int (1)))), (5, x_st (x_bin 6 (fun a b => a + b))), (6, x_sti 8 5), (8, x_ldi 10 5), (10, x_ldi 11 2), (11, x_st (x_icge 48 14)), (14, x_ldi 16 4), (16, x_ldi 17 3), (17, x_st (x_icne 39 20)), (20, x_lda 21 0), (21, x_gf 24 8 29), (24, x_ldi 26 5), (26, x_ald 27 0), (27, x_st (x_push 29 (.int (99)))), (29, x_st (x_icge 36 32)), (32, x_st (x_push 33 (.int (-1)))), (33, x_st (x_goto 38)), (36, x_ldi 38 5), (38, x_ri (.int)), (39, x_iinc 42 4 (1)), (42, x_iinc 45 5 (1)), (45, x_st (x_goto 8)), (48, x_st (x_push 49 (.int (-1)))), (49, x_ri (.int))]
set_option maxRecDepth 100000 in
set_option maxHeartbeats 4000000 in
theorem q_s118_0 (l : Launch) (s0 : State) : ∀ q ∈ q_k118_0, x_Sim (x_K s0) none l q_y118 q_c118 6 (some .int) q_w118 q.1 q.2 := by
  unfold q_k118_0
  refine List.forall_mem_cons.2 ⟨s_iconst (k := 0) (by decide +kernel) (by decide +kernel), ?_⟩
  refine List.forall_mem_cons.2 ⟨s_istore (by decide +kernel) (by decide), ?_⟩
  refine List.forall_mem_cons.2 ⟨s_iload_n (k := 1) (by decide +kernel) rfl, ?_⟩
  refine List.forall_mem_cons.2 ⟨s_iconst (k := 1) (by decide +kernel) (by decide +kernel), ?_⟩
  refine List.forall_mem_cons.2 ⟨s_iadd (by decide +kernel), ?_⟩
  refine List.forall_mem_cons.2 ⟨s_istore (by decide +kernel) (by decide), ?_⟩
  refine List.forall_mem_cons.2 ⟨s_iload (by decide +kernel), ?_⟩
  refine List.forall_mem_cons.2 ⟨s_iload_n (k := 2) (by decide +kernel) rfl, ?_⟩
  refine List.forall_mem_cons.2 ⟨s_icmp_ge (off := 37) (by decide +kernel) (by decide), ?_⟩
  refine List.forall_mem_cons.2 ⟨s_iload (by decide +kernel), ?_⟩
  refine List.forall_mem_cons.2 ⟨s_iload_n (k := 3) (by decide +kernel) rfl, ?_⟩
  refine List.forall_mem_cons.2 ⟨s_icmp_ne (off := 22) (by decide +kernel) (by decide), ?_⟩
  refine List.forall_mem_cons.2 ⟨s_aload_n (k := 0) (by decide +kernel) rfl, ?_⟩
  refine List.forall_mem_cons.2 ⟨s_getfield (C := q_n8) (T := q_T8) (N := 39) (idx := 63) (ref := "ProofDeskModel") (by decide +kernel) rfl q_in8 (by decide) (x_up mw_660) rfl, ?_⟩
  refine List.forall_mem_cons.2 ⟨s_iload (by decide +kernel), ?_⟩
  refine List.forall_mem_cons.2 ⟨s_iald (by decide +kernel) rfl, ?_⟩
  refine List.forall_mem_cons.2 ⟨s_bipush (k := 99) (by decide +kernel) (by decide +kernel), ?_⟩
  refine List.forall_mem_cons.2 ⟨s_icmp_ge (off := 7) (by decide +kernel) (by decide), ?_⟩
  refine List.forall_mem_cons.2 ⟨s_iconst (k := -1) (by decide +kernel) (by decide +kernel), ?_⟩
  refine List.forall_mem_cons.2 ⟨s_goto (off := 5) (by decide +kernel) (by decide), ?_⟩
  refine List.forall_mem_cons.2 ⟨s_iload (by decide +kernel), ?_⟩
  refine List.forall_mem_cons.2 ⟨s_ireturn (ty := .int) (by decide +kernel) rfl, ?_⟩
  refine List.forall_mem_cons.2 ⟨s_iinc (k := 1) (by decide +kernel) (by decide +kernel) (by decide), ?_⟩
  refine List.forall_mem_cons.2 ⟨s_iinc (k := 1) (by decide +kernel) (by decide +kernel) (by decide), ?_⟩
  refine List.forall_mem_cons.2 ⟨s_goto (off := -37) (by decide +kernel) (by decide), ?_⟩
  refine List.forall_mem_cons.2 ⟨s_iconst (k := -1) (by decide +kernel) (by decide +kernel), ?_⟩
  refine List.forall_mem_cons.2 ⟨s_ireturn (ty := .int) (by decide +kernel) rfl, ?_⟩
  exact fun _ h => absurd h List.not_mem_nil
def q_k118 : List (Nat × xO) := q_k118_0
theorem q_s118 (l : Launch) (s0 : State) : ∀ q ∈ q_k118, x_Sim (x_K s0) none l q_y118 q_c118 6 (some .int) q_w118 q.1 q.2 := q_s118_0 l s0
/-- ProofDeskModel.isLiteral(II)Z -/
def q_k119_0 : List (Nat × xO) := [(0, x_ldi 1 2), (1, x_st (x_iflt 18 4)), (4, x_ldi 5 2), (5, x_lda 6 0), (6, x_gf 9 8 5), (9, x_ldi 10 1), (10, x_ald 11 0), (11, x_st (x_icge 18 14)), (14, x_st (x_push 15 (.int (1)))), (15, x_st (x_goto 19)), (18, x_st (x_push 19 (.int (0)))), (19, x_ri (.boolean))]
set_option maxRecDepth 100000 in
set_option maxHeartbeats 4000000 in
theorem q_s119_0 (l : Launch) (s0 : State) : ∀ q ∈ q_k119_0, x_Sim (x_K s0) none l q_y119 q_c119 3 (some .boolean) q_w119 q.1 q.2 := by
  unfold q_k119_0
  refine List.forall_mem_cons.2 ⟨s_iload_n (k := 2) (by decide +kernel) rfl, ?_⟩
  refine List.forall_mem_cons.2 ⟨s_iflt (off := 17) (by decide +kernel) (by decide), ?_⟩
  refine List.forall_mem_cons.2 ⟨s_iload_n (k := 2) (by decide +kernel) rfl, ?_⟩
  refine List.forall_mem_cons.2 ⟨s_aload_n (k := 0) (by decide +kernel) rfl, ?_⟩
  refine List.forall_mem_cons.2 ⟨s_getfield (C := q_n8) (T := q_T8) (N := 39) (idx := 16) (ref := "ProofDeskModel") (by decide +kernel) rfl q_in8 (by decide) (x_up mw_645) rfl, ?_⟩
  refine List.forall_mem_cons.2 ⟨s_iload_n (k := 1) (by decide +kernel) rfl, ?_⟩
  refine List.forall_mem_cons.2 ⟨s_iald (by decide +kernel) rfl, ?_⟩
  refine List.forall_mem_cons.2 ⟨s_icmp_ge (off := 7) (by decide +kernel) (by decide), ?_⟩
  refine List.forall_mem_cons.2 ⟨s_iconst (k := 1) (by decide +kernel) (by decide +kernel), ?_⟩
  refine List.forall_mem_cons.2 ⟨s_goto (off := 4) (by decide +kernel) (by decide), ?_⟩
  refine List.forall_mem_cons.2 ⟨s_iconst (k := 0) (by decide +kernel) (by decide +kernel), ?_⟩
  refine List.forall_mem_cons.2 ⟨s_ireturn (ty := .boolean) (by decide +kernel) rfl, ?_⟩
  exact fun _ h => absurd h List.not_mem_nil
def q_k119 : List (Nat × xO) := q_k119_0
theorem q_s119 (l : Launch) (s0 : State) : ∀ q ∈ q_k119, x_Sim (x_K s0) none l q_y119 q_c119 3 (some .boolean) q_w119 q.1 q.2 := q_s119_0 l s0
/-- ProofDeskModel.isThere(IIIIII)Z -/
def q_k120_0 : List (Nat × xO) := [(0, x_ldi 1 1), (1, x_st (x_iflt 21 4)), (4, x_ldi 5 1), (5, x_st (x_push 6 (.int (4)))), (6, x_st (x_icgt 21 9)), (9, x_ldi 10 2), (10, x_st (x_iflt 21 13)), (13, x_ldi 14 2), (14, x_lda 15 0), (15, x_gf 18 8 2), (18, x_st (x_iclt 23 21)), (21, x_st (x_push 22 (.int (0)))), (22, x_ri (.boolean)), (23, x_ldi 24 1), (24, x_st (x_push 25 (.int (4)))), (25, x_st (x_icne 41 28)), (28, x_lda 29 0), (29, x_gf 32 8 13), (32, x_st (x_ifle 39 35)), (35, x_st (x_push 36 (.int (1)))), (36, x_st (x_goto 40)), (39, x_st (x_push 40 (.int (0)))), (40, x_ri (.boolean)), (41, x_lda 42 0), (42, x_ldi 43 2), (43, x_ldi 44 3), (44, x_cv 47 119 3 8), (47, x_st (x_ifne 52 50)), (50, x_st (x_push 51 (.int (0)))), (51, x_ri (.boolean)), (52, x_ldi 53 1), (53, x_st (x_push 54 (.int (1)))), (54, x_st (x_icne 65 57)), (57, x_lda 58 0), (58, x_ldi 59 2), (59, x_ldi 61 5), (61, x_cv 64 119 3 8), (64, x_ri (.boolean)), (65, x_ldi 66 1), (66, x_st (x_push 67 (.int (2))))]
set_option maxRecDepth 100000 in
set_option maxHeartbeats 4000000 in
theorem q_s120_0 (l : Launch) (s0 : State) : ∀ q ∈ q_k120_0, x_Sim (x_K s0) none l q_y120 q_c120 7 (some .boolean) q_w120 q.1 q.2 := by
  unfold q_k120_0
  refine List.forall_mem_cons.2 ⟨s_iload_n (k := 1) (by decide +kernel) rfl, ?_⟩
  refine List.forall_mem_cons.2 ⟨s_iflt (off := 20) (by decide +kernel) (by decide), ?_⟩
  refine List.forall_mem_cons.2 ⟨s_iload_n (k := 1) (by decide +kernel) rfl, ?_⟩
  refine List.forall_mem_cons.2 ⟨s_iconst (k := 4) (by decide +kernel) (by decide +kernel), ?_⟩
  refine List.forall_mem_cons.2 ⟨s_icmp_gt (off := 15) (by decide +kernel) (by decide), ?_⟩
  refine List.forall_mem_cons.2 ⟨s_iload_n (k := 2) (by decide +kernel) rfl, ?_⟩
  refine List.forall_mem_cons.2 ⟨s_iflt (off := 11) (by decide +kernel) (by decide), ?_⟩
  refine List.forall_mem_cons.2 ⟨s_iload_n (k := 2) (by decide +kernel) rfl, ?_⟩
  refine List.forall_mem_cons.2 ⟨s_aload_n (k := 0) (by decide +kernel) rfl, ?_⟩
  refine List.forall_mem_cons.2 ⟨s_getfield (C := q_n8) (T := q_T8) (N := 39) (idx := 150) (ref := "ProofDeskModel") (by decide +kernel) rfl q_in8 (by decide) (x_up mw_715) rfl, ?_⟩
  refine List.forall_mem_cons.2 ⟨s_icmp_lt (off := 5) (by decide +kernel) (by decide), ?_⟩
  refine List.forall_mem_cons.2 ⟨s_iconst (k := 0) (by decide +kernel) (by decide +kernel), ?_⟩
  refine List.forall_mem_cons.2 ⟨s_ireturn (ty := .boolean) (by decide +kernel) rfl, ?_⟩
  refine List.forall_mem_cons.2 ⟨s_iload_n (k := 1) (by decide +kernel) rfl, ?_⟩
  refine List.forall_mem_cons.2 ⟨s_iconst (k := 4) (by decide +kernel) (by decide +kernel), ?_⟩
  refine List.forall_mem_cons.2 ⟨s_icmp_ne (off := 16) (by decide +kernel) (by decide), ?_⟩
  refine List.forall_mem_cons.2 ⟨s_aload_n (k := 0) (by decide +kernel) rfl, ?_⟩
  refine List.forall_mem_cons.2 ⟨s_getfield (C := q_n8) (T := q_T8) (N := 39) (idx := 91) (ref := "ProofDeskModel") (by decide +kernel) rfl q_in8 (by decide) (x_up mw_669) rfl, ?_⟩
  refine List.forall_mem_cons.2 ⟨s_ifle (off := 7) (by decide +kernel) (by decide), ?_⟩
  refine List.forall_mem_cons.2 ⟨s_iconst (k := 1) (by decide +kernel) (by decide +kernel), ?_⟩
  refine List.forall_mem_cons.2 ⟨s_goto (off := 4) (by decide +kernel) (by decide), ?_⟩
  refine List.forall_mem_cons.2 ⟨s_iconst (k := 0) (by decide +kernel) (by decide +kernel), ?_⟩
  refine List.forall_mem_cons.2 ⟨s_ireturn (ty := .boolean) (by decide +kernel) rfl, ?_⟩
  refine List.forall_mem_cons.2 ⟨s_aload_n (k := 0) (by decide +kernel) rfl, ?_⟩
  refine List.forall_mem_cons.2 ⟨s_iload_n (k := 2) (by decide +kernel) rfl, ?_⟩
  refine List.forall_mem_cons.2 ⟨s_iload_n (k := 3) (by decide +kernel) rfl, ?_⟩
  refine List.forall_mem_cons.2 ⟨s_invokevirtual (idx := 191) (M := 119) (k := 2) (ci := 8) (C := q_n8) (T := q_T8) (N := 39) (ym := q_y119) (wm := q_w119) (by decide +kernel) rfl rfl rfl (x_gdV mw_758 mw_759 mw_760 mw_675 mw_757) rfl (by decide +kernel) (by decide), ?_⟩
  refine List.forall_mem_cons.2 ⟨s_ifne (off := 5) (by decide +kernel) (by decide), ?_⟩
  refine List.forall_mem_cons.2 ⟨s_iconst (k := 0) (by decide +kernel) (by decide +kernel), ?_⟩
  refine List.forall_mem_cons.2 ⟨s_ireturn (ty := .boolean) (by decide +kernel) rfl, ?_⟩
  refine List.forall_mem_cons.2 ⟨s_iload_n (k := 1) (by decide +kernel) rfl, ?_⟩
  refine List.forall_mem_cons.2 ⟨s_iconst (k := 1) (by decide +kernel) (by decide +kernel), ?_⟩
  refine List.forall_mem_cons.2 ⟨s_icmp_ne (off := 11) (by decide +kernel) (by decide), ?_⟩
  refine List.forall_mem_cons.2 ⟨s_aload_n (k := 0) (by decide +kernel) rfl, ?_⟩
  refine List.forall_mem_cons.2 ⟨s_iload_n (k := 2) (by decide +kernel) rfl, ?_⟩
  refine List.forall_mem_cons.2 ⟨s_iload (by decide +kernel), ?_⟩
  refine List.forall_mem_cons.2 ⟨s_invokevirtual (idx := 191) (M := 119) (k := 2) (ci := 8) (C := q_n8) (T := q_T8) (N := 39) (ym := q_y119) (wm := q_w119) (by decide +kernel) rfl rfl rfl (x_gdV mw_758 mw_759 mw_760 mw_675 mw_757) rfl (by decide +kernel) (by decide), ?_⟩
  refine List.forall_mem_cons.2 ⟨s_ireturn (ty := .boolean) (by decide +kernel) rfl, ?_⟩
  refine List.forall_mem_cons.2 ⟨s_iload_n (k := 1) (by decide +kernel) rfl, ?_⟩
  refine List.forall_mem_cons.2 ⟨s_iconst (k := 2) (by decide +kernel) (by decide +kernel), ?_⟩
  exact fun _ h => absurd h List.not_mem_nil
def q_k120_1 : List (Nat × xO) := [(67, x_st (x_icne 72 70)), (70, x_st (x_push 71 (.int (1)))), (71, x_ri (.boolean)), (72, x_ldi 74 4), (74, x_st (x_iflt 97 77)), (77, x_ldi 79 4), (79, x_lda 80 0), (80, x_gf 83 8 2), (83, x_st (x_icge 97 86)), (86, x_lda 87 0), (87, x_ldi 89 4), (89, x_ldi 91 5), (91, x_cv 94 119 3 8), (94, x_st (x_ifne 99 97)), (97, x_st (x_push 98 (.int (0)))), (98, x_ri (.boolean)), (99, x_ldi 100 1), (100, x_st (x_ifne 105 103)), (103, x_st (x_push 104 (.int (1)))), (104, x_ri (.boolean)), (105, x_lda 106 0), (106, x_ldi 108 4), (108, x_st (x_push 110 (.int (44)))), (110, x_st (x_push 112 (.int (26)))), (112, x_cv 115 110 4 8), (115, x_ldi 117 6), (117, x_st (x_iflt 182 120)), (120, x_lda 121 0), (121, x_st (x_push 123 (.int (44)))), (123, x_lda 124 0), (124, x_gf 127 8 4), (127, x_st (x_push 129 (.int (7)))), (129, x_ldi 131 4), (131, x_st (x_bin 132 (fun a b => a * b))), (132, x_ldi 134 5), (134, x_st (x_bin 135 (fun a b => a + b))), (135, x_ald 136 0), (136, x_st (x_bin 137 (fun a b => a + b))), (137, x_st (x_push 139 (.int (44)))), (139, x_lda 140 0)]
set_option maxRecDepth 100000 in
set_option maxHeartbeats 4000000 in
theorem q_s120_1 (l : Launch) (s0 : State) : ∀ q ∈ q_k120_1, x_Sim (x_K s0) none l q_y120 q_c120 7 (some .boolean) q_w120 q.1 q.2 := by
  unfold q_k120_1
  refine List.forall_mem_cons.2 ⟨s_icmp_ne (off := 5) (by decide +kernel) (by decide), ?_⟩
  refine List.forall_mem_cons.2 ⟨s_iconst (k := 1) (by decide +kernel) (by decide +kernel), ?_⟩
  refine List.forall_mem_cons.2 ⟨s_ireturn (ty := .boolean) (by decide +kernel) rfl, ?_⟩
  refine List.forall_mem_cons.2 ⟨s_iload (by decide +kernel), ?_⟩
  refine List.forall_mem_cons.2 ⟨s_iflt (off := 23) (by decide +kernel) (by decide), ?_⟩
  refine List.forall_mem_cons.2 ⟨s_iload (by decide +kernel), ?_⟩
  refine List.forall_mem_cons.2 ⟨s_aload_n (k := 0) (by decide +kernel) rfl, ?_⟩
  refine List.forall_mem_cons.2 ⟨s_getfield (C := q_n8) (T := q_T8) (N := 39) (idx := 150) (ref := "ProofDeskModel") (by decide +kernel) rfl q_in8 (by decide) (x_up mw_715) rfl, ?_⟩
  refine List.forall_mem_cons.2 ⟨s_icmp_ge (off := 14) (by decide +kernel) (by decide), ?_⟩
  refine List.forall_mem_cons.2 ⟨s_aload_n (k := 0) (by decide +kernel) rfl, ?_⟩
  refine List.forall_mem_cons.2 ⟨s_iload (by decide +kernel), ?_⟩
  refine List.forall_mem_cons.2 ⟨s_iload (by decide +kernel), ?_⟩
  refine List.forall_mem_cons.2 ⟨s_invokevirtual (idx := 191) (M := 119) (k := 2) (ci := 8) (C := q_n8) (T := q_T8) (N := 39) (ym := q_y119) (wm := q_w119) (by decide +kernel) rfl rfl rfl (x_gdV mw_758 mw_759 mw_760 mw_675 mw_757) rfl (by decide +kernel) (by decide), ?_⟩
  refine List.forall_mem_cons.2 ⟨s_ifne (off := 5) (by decide +kernel) (by decide), ?_⟩
  refine List.forall_mem_cons.2 ⟨s_iconst (k := 0) (by decide +kernel) (by decide +kernel), ?_⟩
  refine List.forall_mem_cons.2 ⟨s_ireturn (ty := .boolean) (by decide +kernel) rfl, ?_⟩
  refine List.forall_mem_cons.2 ⟨s_iload_n (k := 1) (by decide +kernel) rfl, ?_⟩
  refine List.forall_mem_cons.2 ⟨s_ifne (off := 5) (by decide +kernel) (by decide), ?_⟩
  refine List.forall_mem_cons.2 ⟨s_iconst (k := 1) (by decide +kernel) (by decide +kernel), ?_⟩
  refine List.forall_mem_cons.2 ⟨s_ireturn (ty := .boolean) (by decide +kernel) rfl, ?_⟩
  refine List.forall_mem_cons.2 ⟨s_aload_n (k := 0) (by decide +kernel) rfl, ?_⟩
  refine List.forall_mem_cons.2 ⟨s_iload (by decide +kernel), ?_⟩
  refine List.forall_mem_cons.2 ⟨s_bipush (k := 44) (by decide +kernel) (by decide +kernel), ?_⟩
  refine List.forall_mem_cons.2 ⟨s_bipush (k := 26) (by decide +kernel) (by decide +kernel), ?_⟩
  refine List.forall_mem_cons.2 ⟨s_invokevirtual (idx := 194) (M := 110) (k := 3) (ci := 8) (C := q_n8) (T := q_T8) (N := 39) (ym := q_y110) (wm := q_w110) (by decide +kernel) rfl rfl rfl (x_gdV mw_762 mw_763 mw_764 mw_675 mw_761) rfl (by decide +kernel) (by decide), ?_⟩
  refine List.forall_mem_cons.2 ⟨s_iload (by decide +kernel), ?_⟩
  refine List.forall_mem_cons.2 ⟨s_iflt (off := 65) (by decide +kernel) (by decide), ?_⟩
  refine List.forall_mem_cons.2 ⟨s_aload_n (k := 0) (by decide +kernel) rfl, ?_⟩
  refine List.forall_mem_cons.2 ⟨s_bipush (k := 44) (by decide +kernel) (by decide +kernel), ?_⟩
  refine List.forall_mem_cons.2 ⟨s_aload_n (k := 0) (by decide +kernel) rfl, ?_⟩
  refine List.forall_mem_cons.2 ⟨s_getfield (C := q_n8) (T := q_T8) (N := 39) (idx := 13) (ref := "ProofDeskModel") (by decide +kernel) rfl q_in8 (by decide) (x_up mw_644) rfl, ?_⟩
  refine List.forall_mem_cons.2 ⟨s_bipush (k := 7) (by decide +kernel) (by decide +kernel), ?_⟩
  refine List.forall_mem_cons.2 ⟨s_iload (by decide +kernel), ?_⟩
  refine List.forall_mem_cons.2 ⟨s_imul (by decide +kernel), ?_⟩
  refine List.forall_mem_cons.2 ⟨s_iload (by decide +kernel), ?_⟩
  refine List.forall_mem_cons.2 ⟨s_iadd (by decide +kernel), ?_⟩
  refine List.forall_mem_cons.2 ⟨s_iald (by decide +kernel) rfl, ?_⟩
  refine List.forall_mem_cons.2 ⟨s_iadd (by decide +kernel), ?_⟩
  refine List.forall_mem_cons.2 ⟨s_bipush (k := 44) (by decide +kernel) (by decide +kernel), ?_⟩
  refine List.forall_mem_cons.2 ⟨s_aload_n (k := 0) (by decide +kernel) rfl, ?_⟩
  exact fun _ h => absurd h List.not_mem_nil
def q_k120_2 : List (Nat × xO) := [(140, x_gf 143 8 4), (143, x_st (x_push 145 (.int (7)))), (145, x_ldi 147 4), (147, x_st (x_bin 148 (fun a b => a * b))), (148, x_ldi 150 5), (150, x_st (x_bin 151 (fun a b => a + b))), (151, x_st (x_push 152 (.int (1)))), (152, x_st (x_bin 153 (fun a b => a + b))), (153, x_ald 154 0), (154, x_st (x_bin 155 (fun a b => a + b))), (155, x_ldi 157 6), (157, x_st (x_push 159 (.int (100)))), (159, x_st (x_iclt 170 162)), (162, x_ldi 164 6), (164, x_st (x_push 166 (.int (100)))), (166, x_st (x_bin 167 (fun a b => a - b))), (167, x_st (x_goto 172)), (170, x_ldi 172 6), (172, x_cv 175 118 4 8), (175, x_st (x_iflt 182 178)), (178, x_st (x_push 179 (.int (1)))), (179, x_st (x_goto 183)), (182, x_st (x_push 183 (.int (0)))), (183, x_ri (.boolean))]
set_option maxRecDepth 100000 in
set_option maxHeartbeats 4000000 in
theorem q_s120_2 (l : Launch) (s0 : State) : ∀ q ∈ q_k120_2, x_Sim (x_K s0) none l q_y120 q_c120 7 (some .boolean) q_w120 q.1 q.2 := by
  unfold q_k120_2
  refine List.forall_mem_cons.2 ⟨s_getfield (C := q_n8) (T := q_T8) (N := 39) (idx := 13) (ref := "ProofDeskModel") (by decide +kernel) rfl q_in8 (by decide) (x_up mw_644) rfl, ?_⟩
  refine List.forall_mem_cons.2 ⟨s_bipush (k := 7) (by decide +kernel) (by decide +kernel), ?_⟩
  refine List.forall_mem_cons.2 ⟨s_iload (by decide +kernel), ?_⟩
  refine List.forall_mem_cons.2 ⟨s_imul (by decide +kernel), ?_⟩
  refine List.forall_mem_cons.2 ⟨s_iload (by decide +kernel), ?_⟩
  refine List.forall_mem_cons.2 ⟨s_iadd (by decide +kernel), ?_⟩
  refine List.forall_mem_cons.2 ⟨s_iconst (k := 1) (by decide +kernel) (by decide +kernel), ?_⟩
  refine List.forall_mem_cons.2 ⟨s_iadd (by decide +kernel), ?_⟩
  refine List.forall_mem_cons.2 ⟨s_iald (by decide +kernel) rfl, ?_⟩
  refine List.forall_mem_cons.2 ⟨s_iadd (by decide +kernel), ?_⟩
  refine List.forall_mem_cons.2 ⟨s_iload (by decide +kernel), ?_⟩
  refine List.forall_mem_cons.2 ⟨s_bipush (k := 100) (by decide +kernel) (by decide +kernel), ?_⟩
  refine List.forall_mem_cons.2 ⟨s_icmp_lt (off := 11) (by decide +kernel) (by decide), ?_⟩
  refine List.forall_mem_cons.2 ⟨s_iload (by decide +kernel), ?_⟩
  refine List.forall_mem_cons.2 ⟨s_bipush (k := 100) (by decide +kernel) (by decide +kernel), ?_⟩
  refine List.forall_mem_cons.2 ⟨s_isub (by decide +kernel), ?_⟩
  refine List.forall_mem_cons.2 ⟨s_goto (off := 5) (by decide +kernel) (by decide), ?_⟩
  refine List.forall_mem_cons.2 ⟨s_iload (by decide +kernel), ?_⟩
  refine List.forall_mem_cons.2 ⟨s_invokevirtual (idx := 198) (M := 118) (k := 3) (ci := 8) (C := q_n8) (T := q_T8) (N := 39) (ym := q_y118) (wm := q_w118) (by decide +kernel) rfl rfl rfl (x_gdV mw_766 mw_767 mw_768 mw_675 mw_765) rfl (by decide +kernel) (by decide), ?_⟩
  refine List.forall_mem_cons.2 ⟨s_iflt (off := 7) (by decide +kernel) (by decide), ?_⟩
  refine List.forall_mem_cons.2 ⟨s_iconst (k := 1) (by decide +kernel) (by decide +kernel), ?_⟩
  refine List.forall_mem_cons.2 ⟨s_goto (off := 4) (by decide +kernel) (by decide), ?_⟩
  refine List.forall_mem_cons.2 ⟨s_iconst (k := 0) (by decide +kernel) (by decide +kernel), ?_⟩
  refine List.forall_mem_cons.2 ⟨s_ireturn (ty := .boolean) (by decide +kernel) rfl, ?_⟩
  exact fun _ h => absurd h List.not_mem_nil
def q_k120 : List (Nat × xO) := q_k120_0 ++ q_k120_1 ++ q_k120_2
theorem q_s120 (l : Launch) (s0 : State) : ∀ q ∈ q_k120, x_Sim (x_K s0) none l q_y120 q_c120 7 (some .boolean) q_w120 q.1 q.2 := by
  intro q hq
  simp only [q_k120, List.mem_append] at hq
  rcases hq with (h0 | h1) | h2
  · exact q_s120_0 l s0 q h0
  · exact q_s120_1 l s0 q h1
  · exact q_s120_2 l s0 q h2
/-- ProofDeskModel.step(IIIIII)I -/
def q_k121_0 : List (Nat × xO) := [(0, x_lda 1 0), (1, x_st (x_push 2 (.int (0)))), (2, x_pf 5 8 0 (.int)), (5, x_lda 6 0), (6, x_st (x_push 7 (.int (0)))), (7, x_pf 10 8 1 (.int)), (10, x_lda 11 0), (11, x_gf 14 8 2), (14, x_st (x_push 16 (.int (30)))), (16, x_st (x_icne 23 19)), (19, x_st (x_push 20 (.int (1)))), (20, x_st (x_goto 24)), (23, x_st (x_push 24 (.int (0)))), (24, x_sti 26 7), (26, x_ldi 28 7), (28, x_st (x_ifne 51 31)), (31, x_lda 32 0), (32, x_ldi 33 1), (33, x_ldi 34 2), (34, x_ldi 35 3), (35, x_ldi 37 4), (37, x_ldi 39 5), (39, x_ldi 41 6), (41, x_cv 44 120 7 8), (44, x_st (x_ifeq 51 47)), (47, x_st (x_push 48 (.int (1)))), (48, x_st (x_goto 52)), (51, x_st (x_push 52 (.int (0)))), (52, x_sti 54 8), (54, x_lda 55 0), (55, x_gf 58 8 13), (58, x_st (x_ifle 65 61)), (61, x_st (x_push 62 (.int (1)))), (62, x_st (x_goto 66)), (65, x_st (x_push 66 (.int (0)))), (66, x_sti 68 9), (68, x_ldi 70 8), (70, x_st (x_ifeq 85 73)), (73, x_ldi 75 9), (75, x_st (x_ifeq 85 78))]
set_option maxRecDepth 100000 in
set_option maxHeartbeats 4000000 in
theorem q_s121_0 (l : Launch) (s0 : State) : ∀ q ∈ q_k121_0, x_Sim (x_K s0) none l q_y121 q_c121 14 (some .int) q_w121 q.1 q.2 := by
  unfold q_k121_0
  refine List.forall_mem_cons.2 ⟨s_aload_n (k := 0) (by decide +kernel) rfl, ?_⟩
  refine List.forall_mem_cons.2 ⟨s_iconst (k := 0) (by decide +kernel) (by decide +kernel), ?_⟩
  refine List.forall_mem_cons.2 ⟨s_putfield (C := q_n8) (T := q_T8) (N := 39) (idx := 84) (ref := "ProofDeskModel") q_t8 (by decide +kernel) rfl q_in8 q_ty8 q_nm8 (by decide) (x_up mw_667) rfl rfl (by decide +kernel), ?_⟩
  refine List.forall_mem_cons.2 ⟨s_aload_n (k := 0) (by decide +kernel) rfl, ?_⟩
  refine List.forall_mem_cons.2 ⟨s_iconst (k := 0) (by decide +kernel) (by decide +kernel), ?_⟩
  refine List.forall_mem_cons.2 ⟨s_putfield (C := q_n8) (T := q_T8) (N := 39) (idx := 88) (ref := "ProofDeskModel") q_t8 (by decide +kernel) rfl q_in8 q_ty8 q_nm8 (by decide) (x_up mw_668) rfl rfl (by decide +kernel), ?_⟩
  refine List.forall_mem_cons.2 ⟨s_aload_n (k := 0) (by decide +kernel) rfl, ?_⟩
  refine List.forall_mem_cons.2 ⟨s_getfield (C := q_n8) (T := q_T8) (N := 39) (idx := 150) (ref := "ProofDeskModel") (by decide +kernel) rfl q_in8 (by decide) (x_up mw_715) rfl, ?_⟩
  refine List.forall_mem_cons.2 ⟨s_bipush (k := 30) (by decide +kernel) (by decide +kernel), ?_⟩
  refine List.forall_mem_cons.2 ⟨s_icmp_ne (off := 7) (by decide +kernel) (by decide), ?_⟩
  refine List.forall_mem_cons.2 ⟨s_iconst (k := 1) (by decide +kernel) (by decide +kernel), ?_⟩
  refine List.forall_mem_cons.2 ⟨s_goto (off := 4) (by decide +kernel) (by decide), ?_⟩
  refine List.forall_mem_cons.2 ⟨s_iconst (k := 0) (by decide +kernel) (by decide +kernel), ?_⟩
  refine List.forall_mem_cons.2 ⟨s_istore (by decide +kernel) (by decide), ?_⟩
  refine List.forall_mem_cons.2 ⟨s_iload (by decide +kernel), ?_⟩
  refine List.forall_mem_cons.2 ⟨s_ifne (off := 23) (by decide +kernel) (by decide), ?_⟩
  refine List.forall_mem_cons.2 ⟨s_aload_n (k := 0) (by decide +kernel) rfl, ?_⟩
  refine List.forall_mem_cons.2 ⟨s_iload_n (k := 1) (by decide +kernel) rfl, ?_⟩
  refine List.forall_mem_cons.2 ⟨s_iload_n (k := 2) (by decide +kernel) rfl, ?_⟩
  refine List.forall_mem_cons.2 ⟨s_iload_n (k := 3) (by decide +kernel) rfl, ?_⟩
  refine List.forall_mem_cons.2 ⟨s_iload (by decide +kernel), ?_⟩
  refine List.forall_mem_cons.2 ⟨s_iload (by decide +kernel), ?_⟩
  refine List.forall_mem_cons.2 ⟨s_iload (by decide +kernel), ?_⟩
  refine List.forall_mem_cons.2 ⟨s_invokevirtual (idx := 202) (M := 120) (k := 6) (ci := 8) (C := q_n8) (T := q_T8) (N := 39) (ym := q_y120) (wm := q_w120) (by decide +kernel) rfl rfl rfl (x_gdV mw_770 mw_771 mw_772 mw_675 mw_769) rfl (by decide +kernel) (by decide), ?_⟩
  refine List.forall_mem_cons.2 ⟨s_ifeq (off := 7) (by decide +kernel) (by decide), ?_⟩
  refine List.forall_mem_cons.2 ⟨s_iconst (k := 1) (by decide +kernel) (by decide +kernel), ?_⟩
  refine List.forall_mem_cons.2 ⟨s_goto (off := 4) (by decide +kernel) (by decide), ?_⟩
  refine List.forall_mem_cons.2 ⟨s_iconst (k := 0) (by decide +kernel) (by decide +kernel), ?_⟩
  refine List.forall_mem_cons.2 ⟨s_istore (by decide +kernel) (by decide), ?_⟩
  refine List.forall_mem_cons.2 ⟨s_aload_n (k := 0) (by decide +kernel) rfl, ?_⟩
  refine List.forall_mem_cons.2 ⟨s_getfield (C := q_n8) (T := q_T8) (N := 39) (idx := 91) (ref := "ProofDeskModel") (by decide +kernel) rfl q_in8 (by decide) (x_up mw_669) rfl, ?_⟩
  refine List.forall_mem_cons.2 ⟨s_ifle (off := 7) (by decide +kernel) (by decide), ?_⟩
  refine List.forall_mem_cons.2 ⟨s_iconst (k := 1) (by decide +kernel) (by decide +kernel), ?_⟩
  refine List.forall_mem_cons.2 ⟨s_goto (off := 4) (by decide +kernel) (by decide), ?_⟩
  refine List.forall_mem_cons.2 ⟨s_iconst (k := 0) (by decide +kernel) (by decide +kernel), ?_⟩
  refine List.forall_mem_cons.2 ⟨s_istore (by decide +kernel) (by decide), ?_⟩
  refine List.forall_mem_cons.2 ⟨s_iload (by decide +kernel), ?_⟩
  refine List.forall_mem_cons.2 ⟨s_ifeq (off := 15) (by decide +kernel) (by decide), ?_⟩
  refine List.forall_mem_cons.2 ⟨s_iload (by decide +kernel), ?_⟩
  refine List.forall_mem_cons.2 ⟨s_ifeq (off := 10) (by decide +kernel) (by decide), ?_⟩
  exact fun _ h => absurd h List.not_mem_nil
def q_k121_1 : List (Nat × xO) := [(78, x_lda 79 0), (79, x_cv 82 105 1 8), (82, x_st (x_goto 86)), (85, x_st (x_push 86 (.int (0)))), (86, x_sti 88 10), (88, x_lda 89 0), (89, x_st (x_push 90 (.int (0)))), (90, x_pf 93 8 13 (.int)), (93, x_ldi 95 7), (95, x_st (x_ifeq 106 98)), (98, x_lda 99 0), (99, x_st (x_push 100 (.int (1)))), (100, x_st (x_push 102 (.int (-3)))), (102, x_cv 105 93 3 8), (105, x_ri (.int)), (106, x_ldi 108 8), (108, x_st (x_ifne 119 111)), (111, x_lda 112 0), (112, x_st (x_push 113 (.int (2)))), (113, x_st (x_push 115 (.int (-4)))), (115, x_cv 118 93 3 8), (118, x_ri (.int)), (119, x_ldi 121 10), (121, x_st (x_ifge 132 124)), (124, x_lda 125 0), (125, x_st (x_push 126 (.int (3)))), (126, x_ldi 128 10), (128, x_cv 131 93 3 8), (131, x_ri (.int)), (132, x_ldi 134 9), (134, x_st (x_ifeq 141 137)), (137, x_lda 138 0), (138, x_cv 141 122 1 8), (141, x_ldi 142 1), (142, x_st (x_push 143 (.int (4)))), (143, x_st (x_icne 163 146)), (146, x_lda 147 0), (147, x_ldi 148 2), (148, x_cv 151 130 2 8), (151, x_st (x_ifeq 158 154))]
set_option maxRecDepth 100000 in
set_option maxHeartbeats 4000000 in
theorem q_s121_1 (l : Launch) (s0 : State) : ∀ q ∈ q_k121_1, x_Sim (x_K s0) none l q_y121 q_c121 14 (some .int) q_w121 q.1 q.2 := by
  unfold q_k121_1
  refine List.forall_mem_cons.2 ⟨s_aload_n (k := 0) (by decide +kernel) rfl, ?_⟩
  refine List.forall_mem_cons.2 ⟨s_invokevirtual (idx := 153) (M := 105) (k := 0) (ci := 8) (C := q_n8) (T := q_T8) (N := 39) (ym := q_y105) (wm := q_w105) (by decide +kernel) rfl rfl rfl (x_gdV mw_717 mw_718 mw_719 mw_675 mw_716) rfl (by decide +kernel) (by decide), ?_⟩
  refine List.forall_mem_cons.2 ⟨s_goto (off := 4) (by decide +kernel) (by decide), ?_⟩
  refine List.forall_mem_cons.2 ⟨s_iconst (k := 0) (by decide +kernel) (by decide +kernel), ?_⟩
  refine List.forall_mem_cons.2 ⟨s_istore (by decide +kernel) (by decide), ?_⟩
  refine List.forall_mem_cons.2 ⟨s_aload_n (k := 0) (by decide +kernel) rfl, ?_⟩
  refine List.forall_mem_cons.2 ⟨s_iconst (k := 0) (by decide +kernel) (by decide +kernel), ?_⟩
  refine List.forall_mem_cons.2 ⟨s_putfield (C := q_n8) (T := q_T8) (N := 39) (idx := 91) (ref := "ProofDeskModel") q_t8 (by decide +kernel) rfl q_in8 q_ty8 q_nm8 (by decide) (x_up mw_669) rfl rfl (by decide +kernel), ?_⟩
  refine List.forall_mem_cons.2 ⟨s_iload (by decide +kernel), ?_⟩
  refine List.forall_mem_cons.2 ⟨s_ifeq (off := 11) (by decide +kernel) (by decide), ?_⟩
  refine List.forall_mem_cons.2 ⟨s_aload_n (k := 0) (by decide +kernel) rfl, ?_⟩
  refine List.forall_mem_cons.2 ⟨s_iconst (k := 1) (by decide +kernel) (by decide +kernel), ?_⟩
  refine List.forall_mem_cons.2 ⟨s_bipush (k := -3) (by decide +kernel) (by decide +kernel), ?_⟩
  refine List.forall_mem_cons.2 ⟨s_invokevirtual (idx := 157) (M := 93) (k := 2) (ci := 8) (C := q_n8) (T := q_T8) (N := 39) (ym := q_y93) (wm := q_w93) (by decide +kernel) rfl rfl rfl (x_gdV mw_721 mw_722 mw_723 mw_675 mw_720) rfl (by decide +kernel) (by decide), ?_⟩
  refine List.forall_mem_cons.2 ⟨s_ireturn (ty := .int) (by decide +kernel) rfl, ?_⟩
  refine List.forall_mem_cons.2 ⟨s_iload (by decide +kernel), ?_⟩
  refine List.forall_mem_cons.2 ⟨s_ifne (off := 11) (by decide +kernel) (by decide), ?_⟩
  refine List.forall_mem_cons.2 ⟨s_aload_n (k := 0) (by decide +kernel) rfl, ?_⟩
  refine List.forall_mem_cons.2 ⟨s_iconst (k := 2) (by decide +kernel) (by decide +kernel), ?_⟩
  refine List.forall_mem_cons.2 ⟨s_bipush (k := -4) (by decide +kernel) (by decide +kernel), ?_⟩
  refine List.forall_mem_cons.2 ⟨s_invokevirtual (idx := 157) (M := 93) (k := 2) (ci := 8) (C := q_n8) (T := q_T8) (N := 39) (ym := q_y93) (wm := q_w93) (by decide +kernel) rfl rfl rfl (x_gdV mw_721 mw_722 mw_723 mw_675 mw_720) rfl (by decide +kernel) (by decide), ?_⟩
  refine List.forall_mem_cons.2 ⟨s_ireturn (ty := .int) (by decide +kernel) rfl, ?_⟩
  refine List.forall_mem_cons.2 ⟨s_iload (by decide +kernel), ?_⟩
  refine List.forall_mem_cons.2 ⟨s_ifge (off := 11) (by decide +kernel) (by decide), ?_⟩
  refine List.forall_mem_cons.2 ⟨s_aload_n (k := 0) (by decide +kernel) rfl, ?_⟩
  refine List.forall_mem_cons.2 ⟨s_iconst (k := 3) (by decide +kernel) (by decide +kernel), ?_⟩
  refine List.forall_mem_cons.2 ⟨s_iload (by decide +kernel), ?_⟩
  refine List.forall_mem_cons.2 ⟨s_invokevirtual (idx := 157) (M := 93) (k := 2) (ci := 8) (C := q_n8) (T := q_T8) (N := 39) (ym := q_y93) (wm := q_w93) (by decide +kernel) rfl rfl rfl (x_gdV mw_721 mw_722 mw_723 mw_675 mw_720) rfl (by decide +kernel) (by decide), ?_⟩
  refine List.forall_mem_cons.2 ⟨s_ireturn (ty := .int) (by decide +kernel) rfl, ?_⟩
  refine List.forall_mem_cons.2 ⟨s_iload (by decide +kernel), ?_⟩
  refine List.forall_mem_cons.2 ⟨s_ifeq (off := 7) (by decide +kernel) (by decide), ?_⟩
  refine List.forall_mem_cons.2 ⟨s_aload_n (k := 0) (by decide +kernel) rfl, ?_⟩
  refine List.forall_mem_cons.2 ⟨s_invokevirtual (idx := 206) (M := 122) (k := 0) (ci := 8) (C := q_n8) (T := q_T8) (N := 39) (ym := q_y122) (wm := q_w122) (by decide +kernel) rfl rfl rfl (x_gdV mw_774 mw_775 mw_776 mw_675 mw_773) rfl (by decide +kernel) (by decide), ?_⟩
  refine List.forall_mem_cons.2 ⟨s_iload_n (k := 1) (by decide +kernel) rfl, ?_⟩
  refine List.forall_mem_cons.2 ⟨s_iconst (k := 4) (by decide +kernel) (by decide +kernel), ?_⟩
  refine List.forall_mem_cons.2 ⟨s_icmp_ne (off := 20) (by decide +kernel) (by decide), ?_⟩
  refine List.forall_mem_cons.2 ⟨s_aload_n (k := 0) (by decide +kernel) rfl, ?_⟩
  refine List.forall_mem_cons.2 ⟨s_iload_n (k := 2) (by decide +kernel) rfl, ?_⟩
  refine List.forall_mem_cons.2 ⟨s_invokevirtual (idx := 209) (M := 130) (k := 1) (ci := 8) (C := q_n8) (T := q_T8) (N := 39) (ym := q_y130) (wm := q_w130) (by decide +kernel) rfl rfl rfl (x_gdV mw_778 mw_779 mw_780 mw_675 mw_777) rfl (by decide +kernel) (by decide), ?_⟩
  refine List.forall_mem_cons.2 ⟨s_ifeq (off := 7) (by decide +kernel) (by decide), ?_⟩
  exact fun _ h => absurd h List.not_mem_nil
def q_k121_2 : List (Nat × xO) := [(154, x_st (x_push 155 (.int (0)))), (155, x_st (x_goto 176)), (158, x_st (x_push 160 (.int (-8)))), (160, x_st (x_goto 176)), (163, x_lda 164 0), (164, x_ldi 165 1), (165, x_ldi 166 2), (166, x_ldi 167 3), (167, x_ldi 169 4), (169, x_ldi 171 5), (171, x_ldi 173 6), (173, x_cv 176 125 7 8), (176, x_sti 178 11), (178, x_ldi 180 11), (180, x_st (x_ifne 204 183)), (183, x_ldi 184 1), (184, x_st (x_push 185 (.int (4)))), (185, x_st (x_icge 204 188)), (188, x_ldi 190 9), (190, x_st (x_ifeq 204 193)), (193, x_lda 194 0), (194, x_cv 197 124 1 8), (197, x_st (x_ifne 204 200)), (200, x_st (x_push 202 (.int (-8)))), (202, x_sti 204 11), (204, x_ldi 206 11), (206, x_st (x_ifge 217 209)), (209, x_lda 210 0), (210, x_st (x_push 211 (.int (4)))), (211, x_ldi 213 11), (213, x_cv 216 93 3 8), (216, x_ri (.int)), (217, x_ldi 218 1), (218, x_st (x_push 219 (.int (4)))), (219, x_st (x_icne 226 222)), (222, x_lda 223 0), (223, x_cv 226 123 1 8), (226, x_ldi 227 1), (227, x_st (x_ifeq 235 230)), (230, x_ldi 231 1)]
set_option maxRecDepth 100000 in
set_option maxHeartbeats 4000000 in
theorem q_s121_2 (l : Launch) (s0 : State) : ∀ q ∈ q_k121_2, x_Sim (x_K s0) none l q_y121 q_c121 14 (some .int) q_w121 q.1 q.2 := by
  unfold q_k121_2
  refine List.forall_mem_cons.2 ⟨s_iconst (k := 0) (by decide +kernel) (by decide +kernel), ?_⟩
  refine List.forall_mem_cons.2 ⟨s_goto (off := 21) (by decide +kernel) (by decide), ?_⟩
  refine List.forall_mem_cons.2 ⟨s_bipush (k := -8) (by decide +kernel) (by decide +kernel), ?_⟩
  refine List.forall_mem_cons.2 ⟨s_goto (off := 16) (by decide +kernel) (by decide), ?_⟩
  refine List.forall_mem_cons.2 ⟨s_aload_n (k := 0) (by decide +kernel) rfl, ?_⟩
  refine List.forall_mem_cons.2 ⟨s_iload_n (k := 1) (by decide +kernel) rfl, ?_⟩
  refine List.forall_mem_cons.2 ⟨s_iload_n (k := 2) (by decide +kernel) rfl, ?_⟩
  refine List.forall_mem_cons.2 ⟨s_iload_n (k := 3) (by decide +kernel) rfl, ?_⟩
  refine List.forall_mem_cons.2 ⟨s_iload (by decide +kernel), ?_⟩
  refine List.forall_mem_cons.2 ⟨s_iload (by decide +kernel), ?_⟩
  refine List.forall_mem_cons.2 ⟨s_iload (by decide +kernel), ?_⟩
  refine List.forall_mem_cons.2 ⟨s_invokevirtual (idx := 212) (M := 125) (k := 6) (ci := 8) (C := q_n8) (T := q_T8) (N := 39) (ym := q_y125) (wm := q_w125) (by decide +kernel) rfl rfl rfl (x_gdV mw_782 mw_783 mw_784 mw_675 mw_781) rfl (by decide +kernel) (by decide), ?_⟩
  refine List.forall_mem_cons.2 ⟨s_istore (by decide +kernel) (by decide), ?_⟩
  refine List.forall_mem_cons.2 ⟨s_iload (by decide +kernel), ?_⟩
  refine List.forall_mem_cons.2 ⟨s_ifne (off := 24) (by decide +kernel) (by decide), ?_⟩
  refine List.forall_mem_cons.2 ⟨s_iload_n (k := 1) (by decide +kernel) rfl, ?_⟩
  refine List.forall_mem_cons.2 ⟨s_iconst (k := 4) (by decide +kernel) (by decide +kernel), ?_⟩
  refine List.forall_mem_cons.2 ⟨s_icmp_ge (off := 19) (by decide +kernel) (by decide), ?_⟩
  refine List.forall_mem_cons.2 ⟨s_iload (by decide +kernel), ?_⟩
  refine List.forall_mem_cons.2 ⟨s_ifeq (off := 14) (by decide +kernel) (by decide), ?_⟩
  refine List.forall_mem_cons.2 ⟨s_aload_n (k := 0) (by decide +kernel) rfl, ?_⟩
  refine List.forall_mem_cons.2 ⟨s_invokevirtual (idx := 216) (M := 124) (k := 0) (ci := 8) (C := q_n8) (T := q_T8) (N := 39) (ym := q_y124) (wm := q_w124) (by decide +kernel) rfl rfl rfl (x_gdV mw_786 mw_787 mw_788 mw_675 mw_785) rfl (by decide +kernel) (by decide), ?_⟩
  refine List.forall_mem_cons.2 ⟨s_ifne (off := 7) (by decide +kernel) (by decide), ?_⟩
  refine List.forall_mem_cons.2 ⟨s_bipush (k := -8) (by decide +kernel) (by decide +kernel), ?_⟩
  refine List.forall_mem_cons.2 ⟨s_istore (by decide +kernel) (by decide), ?_⟩
  refine List.forall_mem_cons.2 ⟨s_iload (by decide +kernel), ?_⟩
  refine List.forall_mem_cons.2 ⟨s_ifge (off := 11) (by decide +kernel) (by decide), ?_⟩
  refine List.forall_mem_cons.2 ⟨s_aload_n (k := 0) (by decide +kernel) rfl, ?_⟩
  refine List.forall_mem_cons.2 ⟨s_iconst (k := 4) (by decide +kernel) (by decide +kernel), ?_⟩
  refine List.forall_mem_cons.2 ⟨s_iload (by decide +kernel), ?_⟩
  refine List.forall_mem_cons.2 ⟨s_invokevirtual (idx := 157) (M := 93) (k := 2) (ci := 8) (C := q_n8) (T := q_T8) (N := 39) (ym := q_y93) (wm := q_w93) (by decide +kernel) rfl rfl rfl (x_gdV mw_721 mw_722 mw_723 mw_675 mw_720) rfl (by decide +kernel) (by decide), ?_⟩
  refine List.forall_mem_cons.2 ⟨s_ireturn (ty := .int) (by decide +kernel) rfl, ?_⟩
  refine List.forall_mem_cons.2 ⟨s_iload_n (k := 1) (by decide +kernel) rfl, ?_⟩
  refine List.forall_mem_cons.2 ⟨s_iconst (k := 4) (by decide +kernel) (by decide +kernel), ?_⟩
  refine List.forall_mem_cons.2 ⟨s_icmp_ne (off := 7) (by decide +kernel) (by decide), ?_⟩
  refine List.forall_mem_cons.2 ⟨s_aload_n (k := 0) (by decide +kernel) rfl, ?_⟩
  refine List.forall_mem_cons.2 ⟨s_invokevirtual (idx := 220) (M := 123) (k := 0) (ci := 8) (C := q_n8) (T := q_T8) (N := 39) (ym := q_y123) (wm := q_w123) (by decide +kernel) rfl rfl rfl (x_gdV mw_790 mw_791 mw_792 mw_675 mw_789) rfl (by decide +kernel) (by decide), ?_⟩
  refine List.forall_mem_cons.2 ⟨s_iload_n (k := 1) (by decide +kernel) rfl, ?_⟩
  refine List.forall_mem_cons.2 ⟨s_ifeq (off := 8) (by decide +kernel) (by decide), ?_⟩
  refine List.forall_mem_cons.2 ⟨s_iload_n (k := 1) (by decide +kernel) rfl, ?_⟩
  exact fun _ h => absurd h List.not_mem_nil
def q_k121_3 : List (Nat × xO) := [(231, x_st (x_push 232 (.int (3)))), (232, x_st (x_icne 239 235)), (235, x_st (x_push 236 (.int (1)))), (236, x_st (x_goto 240)), (239, x_st (x_push 240 (.int (0)))), (240, x_sti 242 12), (242, x_ldi 244 12), (244, x_st (x_ifeq 273 247)), (247, x_lda 248 0), (248, x_gf 251 8 6), (251, x_ldi 253 4), (253, x_ald 254 0), (254, x_lda 255 0), (255, x_gf 258 8 6), (258, x_ldi 259 2), (259, x_ald 260 0), (260, x_st (x_icle 273 263)), (263, x_lda 264 0), (264, x_gf 267 8 6), (267, x_ldi 269 4), (269, x_ald 270 0), (270, x_st (x_goto 279)), (273, x_lda 274 0), (274, x_gf 277 8 6), (277, x_ldi 278 2), (278, x_ald 279 0), (279, x_sti 281 13), (281, x_lda 282 0), (282, x_st (x_push 283 (.int (0)))), (283, x_ldi 285 13), (285, x_st (x_push 286 (.int (1)))), (286, x_st (x_bin 287 (fun a b => a + b))), (287, x_ldi 289 12), (289, x_st (x_ifeq 309 292)), (292, x_lda 293 0), (293, x_gf 296 8 7), (296, x_ldi 297 2), (297, x_ald 298 0), (298, x_lda 299 0), (299, x_gf 302 8 7)]
set_option maxRecDepth 100000 in
set_option maxHeartbeats 4000000 in
theorem q_s121_3 (l : Launch) (s0 : State) : ∀ q ∈ q_k121_3, x_Sim (x_K s0) none l q_y121 q_c121 14 (some .int) q_w121 q.1 q.2 := by
  unfold q_k121_3
  refine List.forall_mem_cons.2 ⟨s_iconst (k := 3) (by decide +kernel) (by decide +kernel), ?_⟩
  refine List.forall_mem_cons.2 ⟨s_icmp_ne (off := 7) (by decide +kernel) (by decide), ?_⟩
  refine List.forall_mem_cons.2 ⟨s_iconst (k := 1) (by decide +kernel) (by decide +kernel), ?_⟩
  refine List.forall_mem_cons.2 ⟨s_goto (off := 4) (by decide +kernel) (by decide), ?_⟩
  refine List.forall_mem_cons.2 ⟨s_iconst (k := 0) (by decide +kernel) (by decide +kernel), ?_⟩
  refine List.forall_mem_cons.2 ⟨s_istore (by decide +kernel) (by decide), ?_⟩
  refine List.forall_mem_cons.2 ⟨s_iload (by decide +kernel), ?_⟩
  refine List.forall_mem_cons.2 ⟨s_ifeq (off := 29) (by decide +kernel) (by decide), ?_⟩
  refine List.forall_mem_cons.2 ⟨s_aload_n (k := 0) (by decide +kernel) rfl, ?_⟩
  refine List.forall_mem_cons.2 ⟨s_getfield (C := q_n8) (T := q_T8) (N := 39) (idx := 19) (ref := "ProofDeskModel") (by decide +kernel) rfl q_in8 (by decide) (x_up mw_646) rfl, ?_⟩
  refine List.forall_mem_cons.2 ⟨s_iload (by decide +kernel), ?_⟩
  refine List.forall_mem_cons.2 ⟨s_iald (by decide +kernel) rfl, ?_⟩
  refine List.forall_mem_cons.2 ⟨s_aload_n (k := 0) (by decide +kernel) rfl, ?_⟩
  refine List.forall_mem_cons.2 ⟨s_getfield (C := q_n8) (T := q_T8) (N := 39) (idx := 19) (ref := "ProofDeskModel") (by decide +kernel) rfl q_in8 (by decide) (x_up mw_646) rfl, ?_⟩
  refine List.forall_mem_cons.2 ⟨s_iload_n (k := 2) (by decide +kernel) rfl, ?_⟩
  refine List.forall_mem_cons.2 ⟨s_iald (by decide +kernel) rfl, ?_⟩
  refine List.forall_mem_cons.2 ⟨s_icmp_le (off := 13) (by decide +kernel) (by decide), ?_⟩
  refine List.forall_mem_cons.2 ⟨s_aload_n (k := 0) (by decide +kernel) rfl, ?_⟩
  refine List.forall_mem_cons.2 ⟨s_getfield (C := q_n8) (T := q_T8) (N := 39) (idx := 19) (ref := "ProofDeskModel") (by decide +kernel) rfl q_in8 (by decide) (x_up mw_646) rfl, ?_⟩
  refine List.forall_mem_cons.2 ⟨s_iload (by decide +kernel), ?_⟩
  refine List.forall_mem_cons.2 ⟨s_iald (by decide +kernel) rfl, ?_⟩
  refine List.forall_mem_cons.2 ⟨s_goto (off := 9) (by decide +kernel) (by decide), ?_⟩
  refine List.forall_mem_cons.2 ⟨s_aload_n (k := 0) (by decide +kernel) rfl, ?_⟩
  refine List.forall_mem_cons.2 ⟨s_getfield (C := q_n8) (T := q_T8) (N := 39) (idx := 19) (ref := "ProofDeskModel") (by decide +kernel) rfl q_in8 (by decide) (x_up mw_646) rfl, ?_⟩
  refine List.forall_mem_cons.2 ⟨s_iload_n (k := 2) (by decide +kernel) rfl, ?_⟩
  refine List.forall_mem_cons.2 ⟨s_iald (by decide +kernel) rfl, ?_⟩
  refine List.forall_mem_cons.2 ⟨s_istore (by decide +kernel) (by decide), ?_⟩
  refine List.forall_mem_cons.2 ⟨s_aload_n (k := 0) (by decide +kernel) rfl, ?_⟩
  refine List.forall_mem_cons.2 ⟨s_iconst (k := 0) (by decide +kernel) (by decide +kernel), ?_⟩
  refine List.forall_mem_cons.2 ⟨s_iload (by decide +kernel), ?_⟩
  refine List.forall_mem_cons.2 ⟨s_iconst (k := 1) (by decide +kernel) (by decide +kernel), ?_⟩
  refine List.forall_mem_cons.2 ⟨s_iadd (by decide +kernel), ?_⟩
  refine List.forall_mem_cons.2 ⟨s_iload (by decide +kernel), ?_⟩
  refine List.forall_mem_cons.2 ⟨s_ifeq (off := 20) (by decide +kernel) (by decide), ?_⟩
  refine List.forall_mem_cons.2 ⟨s_aload_n (k := 0) (by decide +kernel) rfl, ?_⟩
  refine List.forall_mem_cons.2 ⟨s_getfield (C := q_n8) (T := q_T8) (N := 39) (idx := 22) (ref := "ProofDeskModel") (by decide +kernel) rfl q_in8 (by decide) (x_up mw_647) rfl, ?_⟩
  refine List.forall_mem_cons.2 ⟨s_iload_n (k := 2) (by decide +kernel) rfl, ?_⟩
  refine List.forall_mem_cons.2 ⟨s_iald (by decide +kernel) rfl, ?_⟩
  refine List.forall_mem_cons.2 ⟨s_aload_n (k := 0) (by decide +kernel) rfl, ?_⟩
  refine List.forall_mem_cons.2 ⟨s_getfield (C := q_n8) (T := q_T8) (N := 39) (idx := 22) (ref := "ProofDeskModel") (by decide +kernel) rfl q_in8 (by decide) (x_up mw_647) rfl, ?_⟩
  exact fun _ h => absurd h List.not_mem_nil
def q_k121_4 : List (Nat × xO) := [(302, x_ldi 304 4), (304, x_ald 305 0), (305, x_st (x_bin 306 (fun a b => a ||| b))), (306, x_st (x_goto 315)), (309, x_lda 310 0), (310, x_gf 313 8 7), (313, x_ldi 314 2), (314, x_ald 315 0), (315, x_cv 318 107 4 8), (318, x_ri (.int))]
set_option maxRecDepth 100000 in
set_option maxHeartbeats 4000000 in
theorem q_s121_4 (l : Launch) (s0 : State) : ∀ q ∈ q_k121_4, x_Sim (x_K s0) none l q_y121 q_c121 14 (some .int) q_w121 q.1 q.2 := by
  unfold q_k121_4
  refine List.forall_mem_cons.2 ⟨s_iload (by decide +kernel), ?_⟩
  refine List.forall_mem_cons.2 ⟨s_iald (by decide +kernel) rfl, ?_⟩
  refine List.forall_mem_cons.2 ⟨s_ior (by decide +kernel), ?_⟩
  refine List.forall_mem_cons.2 ⟨s_goto (off := 9) (by decide +kernel) (by decide), ?_⟩
  refine List.forall_mem_cons.2 ⟨s_aload_n (k := 0) (by decide +kernel) rfl, ?_⟩
  refine List.forall_mem_cons.2 ⟨s_getfield (C := q_n8) (T := q_T8) (N := 39) (idx := 22) (ref := "ProofDeskModel") (by decide +kernel) rfl q_in8 (by decide) (x_up mw_647) rfl, ?_⟩
  refine List.forall_mem_cons.2 ⟨s_iload_n (k := 2) (by decide +kernel) rfl, ?_⟩
  refine List.forall_mem_cons.2 ⟨s_iald (by decide +kernel) rfl, ?_⟩
  refine List.forall_mem_cons.2 ⟨s_invokevirtual (idx := 164) (M := 107) (k := 3) (ci := 8) (C := q_n8) (T := q_T8) (N := 39) (ym := q_y107) (wm := q_w107) (by decide +kernel) rfl rfl rfl (x_gdV mw_729 mw_730 mw_731 mw_675 mw_728) rfl (by decide +kernel) (by decide), ?_⟩
  refine List.forall_mem_cons.2 ⟨s_ireturn (ty := .int) (by decide +kernel) rfl, ?_⟩
  exact fun _ h => absurd h List.not_mem_nil
def q_k121 : List (Nat × xO) := q_k121_0 ++ q_k121_1 ++ q_k121_2 ++ q_k121_3 ++ q_k121_4
theorem q_s121 (l : Launch) (s0 : State) : ∀ q ∈ q_k121, x_Sim (x_K s0) none l q_y121 q_c121 14 (some .int) q_w121 q.1 q.2 := by
  intro q hq
  simp only [q_k121, List.mem_append] at hq
  rcases hq with (((h0 | h1) | h2) | h3) | h4
  · exact q_s121_0 l s0 q h0
  · exact q_s121_1 l s0 q h1
  · exact q_s121_2 l s0 q h2
  · exact q_s121_3 l s0 q h3
  · exact q_s121_4 l s0 q h4
/-- ProofDeskModel.keepClaim()V -/
def q_k122_0 : List (Nat × xO) := [(0, x_lda 1 0), (1, x_cv 4 106 1 8), (4, x_lda 5 0), (5, x_lda 6 0), (6, x_gf 9 8 22), (9, x_pf 12 8 28 (.int)), (12, x_st (x_push 13 (.int (0)))), (13, x_sti 14 1), (14, x_ldi 15 1), (15, x_lda 16 0), (16, x_gf 19 8 21), (19, x_st (x_icge 40 22)), (22, x_lda 23 0), (23, x_gf 26 8 25), (26, x_ldi 27 1), (27, x_lda 28 0), (28, x_gf 31 8 17), (31, x_ldi 32 1), (32, x_ald 33 0), (33, x_ast 34 0 (fun x => x)), (34, x_iinc 37 1 (1)), (37, x_st (x_goto 14)), (40, x_st (x_push 41 (.int (0)))), (41, x_sti 42 1), (42, x_ldi 43 1), (43, x_lda 44 0), (44, x_gf 47 8 22), (47, x_st (x_icgt 68 50)), (50, x_lda 51 0), (51, x_gf 54 8 26), (54, x_ldi 55 1), (55, x_lda 56 0), (56, x_gf 59 8 18), (59, x_ldi 60 1), (60, x_ald 61 0), (61, x_ast 62 0 (fun x => x)), (62, x_iinc 65 1 (1)), (65, x_st (x_goto 42)), (68, x_st (x_push 69 (.int (0)))), (69, x_sti 70 1)]
set_option maxRecDepth 100000 in
set_option maxHeartbeats 4000000 in
theorem q_s122_0 (l : Launch) (s0 : State) : ∀ q ∈ q_k122_0, x_Sim (x_K s0) none l q_y122 q_c122 2 none q_w122 q.1 q.2 := by
  unfold q_k122_0
  refine List.forall_mem_cons.2 ⟨s_aload_n (k := 0) (by decide +kernel) rfl, ?_⟩
  refine List.forall_mem_cons.2 ⟨s_invokevirtual (idx := 161) (M := 106) (k := 0) (ci := 8) (C := q_n8) (T := q_T8) (N := 39) (ym := q_y106) (wm := q_w106) (by decide +kernel) rfl rfl rfl (x_gdV mw_725 mw_726 mw_727 mw_675 mw_724) rfl (by decide +kernel) (by decide), ?_⟩
  refine List.forall_mem_cons.2 ⟨s_aload_n (k := 0) (by decide +kernel) rfl, ?_⟩
  refine List.forall_mem_cons.2 ⟨s_aload_n (k := 0) (by decide +kernel) rfl, ?_⟩
  refine List.forall_mem_cons.2 ⟨s_getfield (C := q_n8) (T := q_T8) (N := 39) (idx := 130) (ref := "ProofDeskModel") (by decide +kernel) rfl q_in8 (by decide) (x_up mw_697) rfl, ?_⟩
  refine List.forall_mem_cons.2 ⟨s_putfield (C := q_n8) (T := q_T8) (N := 39) (idx := 223) (ref := "ProofDeskModel") q_t8 (by decide +kernel) rfl q_in8 q_ty8 q_nm8 (by decide) (x_up mw_793) rfl rfl (by decide +kernel), ?_⟩
  refine List.forall_mem_cons.2 ⟨s_iconst (k := 0) (by decide +kernel) (by decide +kernel), ?_⟩
  refine List.forall_mem_cons.2 ⟨s_istore_n (k := 1) (by decide +kernel) rfl (by decide), ?_⟩
  refine List.forall_mem_cons.2 ⟨s_iload_n (k := 1) (by decide +kernel) rfl, ?_⟩
  refine List.forall_mem_cons.2 ⟨s_aload_n (k := 0) (by decide +kernel) rfl, ?_⟩
  refine List.forall_mem_cons.2 ⟨s_getfield (C := q_n8) (T := q_T8) (N := 39) (idx := 101) (ref := "ProofDeskModel") (by decide +kernel) rfl q_in8 (by decide) (x_up mw_676) rfl, ?_⟩
  refine List.forall_mem_cons.2 ⟨s_icmp_ge (off := 21) (by decide +kernel) (by decide), ?_⟩
  refine List.forall_mem_cons.2 ⟨s_aload_n (k := 0) (by decide +kernel) rfl, ?_⟩
  refine List.forall_mem_cons.2 ⟨s_getfield (C := q_n8) (T := q_T8) (N := 39) (idx := 54) (ref := "ProofDeskModel") (by decide +kernel) rfl q_in8 (by decide) (x_up mw_657) rfl, ?_⟩
  refine List.forall_mem_cons.2 ⟨s_iload_n (k := 1) (by decide +kernel) rfl, ?_⟩
  refine List.forall_mem_cons.2 ⟨s_aload_n (k := 0) (by decide +kernel) rfl, ?_⟩
  refine List.forall_mem_cons.2 ⟨s_getfield (C := q_n8) (T := q_T8) (N := 39) (idx := 42) (ref := "ProofDeskModel") (by decide +kernel) rfl q_in8 (by decide) (x_up mw_653) rfl, ?_⟩
  refine List.forall_mem_cons.2 ⟨s_iload_n (k := 1) (by decide +kernel) rfl, ?_⟩
  refine List.forall_mem_cons.2 ⟨s_iald (by decide +kernel) rfl, ?_⟩
  refine List.forall_mem_cons.2 ⟨s_iast (by decide +kernel) rfl, ?_⟩
  refine List.forall_mem_cons.2 ⟨s_iinc (k := 1) (by decide +kernel) (by decide +kernel) (by decide), ?_⟩
  refine List.forall_mem_cons.2 ⟨s_goto (off := -23) (by decide +kernel) (by decide), ?_⟩
  refine List.forall_mem_cons.2 ⟨s_iconst (k := 0) (by decide +kernel) (by decide +kernel), ?_⟩
  refine List.forall_mem_cons.2 ⟨s_istore_n (k := 1) (by decide +kernel) rfl (by decide), ?_⟩
  refine List.forall_mem_cons.2 ⟨s_iload_n (k := 1) (by decide +kernel) rfl, ?_⟩
  refine List.forall_mem_cons.2 ⟨s_aload_n (k := 0) (by decide +kernel) rfl, ?_⟩
  refine List.forall_mem_cons.2 ⟨s_getfield (C := q_n8) (T := q_T8) (N := 39) (idx := 130) (ref := "ProofDeskModel") (by decide +kernel) rfl q_in8 (by decide) (x_up mw_697) rfl, ?_⟩
  refine List.forall_mem_cons.2 ⟨s_icmp_gt (off := 21) (by decide +kernel) (by decide), ?_⟩
  refine List.forall_mem_cons.2 ⟨s_aload_n (k := 0) (by decide +kernel) rfl, ?_⟩
  refine List.forall_mem_cons.2 ⟨s_getfield (C := q_n8) (T := q_T8) (N := 39) (idx := 57) (ref := "ProofDeskModel") (by decide +kernel) rfl q_in8 (by decide) (x_up mw_658) rfl, ?_⟩
  refine List.forall_mem_cons.2 ⟨s_iload_n (k := 1) (by decide +kernel) rfl, ?_⟩
  refine List.forall_mem_cons.2 ⟨s_aload_n (k := 0) (by decide +kernel) rfl, ?_⟩
  refine List.forall_mem_cons.2 ⟨s_getfield (C := q_n8) (T := q_T8) (N := 39) (idx := 45) (ref := "ProofDeskModel") (by decide +kernel) rfl q_in8 (by decide) (x_up mw_654) rfl, ?_⟩
  refine List.forall_mem_cons.2 ⟨s_iload_n (k := 1) (by decide +kernel) rfl, ?_⟩
  refine List.forall_mem_cons.2 ⟨s_iald (by decide +kernel) rfl, ?_⟩
  refine List.forall_mem_cons.2 ⟨s_iast (by decide +kernel) rfl, ?_⟩
  refine List.forall_mem_cons.2 ⟨s_iinc (k := 1) (by decide +kernel) (by decide +kernel) (by decide), ?_⟩
  refine List.forall_mem_cons.2 ⟨s_goto (off := -23) (by decide +kernel) (by decide), ?_⟩
  refine List.forall_mem_cons.2 ⟨s_iconst (k := 0) (by decide +kernel) (by decide +kernel), ?_⟩
  refine List.forall_mem_cons.2 ⟨s_istore_n (k := 1) (by decide +kernel) rfl (by decide), ?_⟩
  exact fun _ h => absurd h List.not_mem_nil
def q_k122_1 : List (Nat × xO) := [(70, x_ldi 71 1), (71, x_lda 72 0), (72, x_gf 75 8 22), (75, x_st (x_icge 96 78)), (78, x_lda 79 0), (79, x_gf 82 8 27), (82, x_ldi 83 1), (83, x_lda 84 0), (84, x_gf 87 8 20), (87, x_ldi 88 1), (88, x_ald 89 1), (89, x_ast 90 1 (fun x => vp_nar .boolean x)), (90, x_iinc 93 1 (1)), (93, x_st (x_goto 70)), (96, x_rv)]
set_option maxRecDepth 100000 in
set_option maxHeartbeats 4000000 in
theorem q_s122_1 (l : Launch) (s0 : State) : ∀ q ∈ q_k122_1, x_Sim (x_K s0) none l q_y122 q_c122 2 none q_w122 q.1 q.2 := by
  unfold q_k122_1
  refine List.forall_mem_cons.2 ⟨s_iload_n (k := 1) (by decide +kernel) rfl, ?_⟩
  refine List.forall_mem_cons.2 ⟨s_aload_n (k := 0) (by decide +kernel) rfl, ?_⟩
  refine List.forall_mem_cons.2 ⟨s_getfield (C := q_n8) (T := q_T8) (N := 39) (idx := 130) (ref := "ProofDeskModel") (by decide +kernel) rfl q_in8 (by decide) (x_up mw_697) rfl, ?_⟩
  refine List.forall_mem_cons.2 ⟨s_icmp_ge (off := 21) (by decide +kernel) (by decide), ?_⟩
  refine List.forall_mem_cons.2 ⟨s_aload_n (k := 0) (by decide +kernel) rfl, ?_⟩
  refine List.forall_mem_cons.2 ⟨s_getfield (C := q_n8) (T := q_T8) (N := 39) (idx := 60) (ref := "ProofDeskModel") (by decide +kernel) rfl q_in8 (by decide) (x_up mw_659) rfl, ?_⟩
  refine List.forall_mem_cons.2 ⟨s_iload_n (k := 1) (by decide +kernel) rfl, ?_⟩
  refine List.forall_mem_cons.2 ⟨s_aload_n (k := 0) (by decide +kernel) rfl, ?_⟩
  refine List.forall_mem_cons.2 ⟨s_getfield (C := q_n8) (T := q_T8) (N := 39) (idx := 51) (ref := "ProofDeskModel") (by decide +kernel) rfl q_in8 (by decide) (x_up mw_656) rfl, ?_⟩
  refine List.forall_mem_cons.2 ⟨s_iload_n (k := 1) (by decide +kernel) rfl, ?_⟩
  refine List.forall_mem_cons.2 ⟨s_zald (by decide +kernel) rfl, ?_⟩
  refine List.forall_mem_cons.2 ⟨s_zast (by decide +kernel) rfl, ?_⟩
  refine List.forall_mem_cons.2 ⟨s_iinc (k := 1) (by decide +kernel) (by decide +kernel) (by decide), ?_⟩
  refine List.forall_mem_cons.2 ⟨s_goto (off := -23) (by decide +kernel) (by decide), ?_⟩
  refine List.forall_mem_cons.2 ⟨s_return (by decide +kernel) rfl, ?_⟩
  exact fun _ h => absurd h List.not_mem_nil
def q_k122 : List (Nat × xO) := q_k122_0 ++ q_k122_1
theorem q_s122 (l : Launch) (s0 : State) : ∀ q ∈ q_k122, x_Sim (x_K s0) none l q_y122 q_c122 2 none q_w122 q.1 q.2 := by
  intro q hq
  simp only [q_k122, List.mem_append] at hq
  rcases hq with h0 | h1
  · exact q_s122_0 l s0 q h0
  · exact q_s122_1 l s0 q h1
/-- ProofDeskModel.takeClaim()V -/
def q_k123_0 : List (Nat × xO) := [(0, x_lda 1 0), (1, x_lda 2 0), (2, x_gf 5 8 28), (5, x_pf 8 8 22 (.int)), (8, x_lda 9 0), (9, x_lda 10 0), (10, x_gf 13 8 26), (13, x_lda 14 0), (14, x_gf 17 8 28), (17, x_ald 18 0), (18, x_pf 21 8 21 (.int)), (21, x_st (x_push 22 (.int (0)))), (22, x_sti 23 1), (23, x_ldi 24 1), (24, x_lda 25 0), (25, x_gf 28 8 21), (28, x_st (x_icge 49 31)), (31, x_lda 32 0), (32, x_gf 35 8 17), (35, x_ldi 36 1), (36, x_lda 37 0), (37, x_gf 40 8 25), (40, x_ldi 41 1), (41, x_ald 42 0), (42, x_ast 43 0 (fun x => x)), (43, x_iinc 46 1 (1)), (46, x_st (x_goto 23)), (49, x_st (x_push 50 (.int (0)))), (50, x_sti 51 1), (51, x_ldi 52 1), (52, x_lda 53 0), (53, x_gf 56 8 28), (56, x_st (x_icgt 77 59)), (59, x_lda 60 0), (60, x_gf 63 8 18), (63, x_ldi 64 1), (64, x_lda 65 0), (65, x_gf 68 8 26), (68, x_ldi 69 1), (69, x_ald 70 0)]
set_option maxRecDepth 100000 in
set_option maxHeartbeats 4000000 in
theorem q_s123_0 (l : Launch) (s0 : State) : ∀ q ∈ q_k123_0, x_Sim (x_K s0) none l q_y123 q_c123 2 none q_w123 q.1 q.2 := by
  unfold q_k123_0
  refine List.forall_mem_cons.2 ⟨s_aload_n (k := 0) (by decide +kernel) rfl, ?_⟩
  refine List.forall_mem_cons.2 ⟨s_aload_n (k := 0) (by decide +kernel) rfl, ?_⟩
  refine List.forall_mem_cons.2 ⟨s_getfield (C := q_n8) (T := q_T8) (N := 39) (idx := 223) (ref := "ProofDeskModel") (by decide +kernel) rfl q_in8 (by decide) (x_up mw_793) rfl, ?_⟩
  refine List.forall_mem_cons.2 ⟨s_putfield (C := q_n8) (T := q_T8) (N := 39) (idx := 130) (ref := "ProofDeskModel") q_t8 (by decide +kernel) rfl q_in8 q_ty8 q_nm8 (by decide) (x_up mw_697) rfl rfl (by decide +kernel), ?_⟩
  refine List.forall_mem_cons.2 ⟨s_aload_n (k := 0) (by decide +kernel) rfl, ?_⟩
  refine List.forall_mem_cons.2 ⟨s_aload_n (k := 0) (by decide +kernel) rfl, ?_⟩
  refine List.forall_mem_cons.2 ⟨s_getfield (C := q_n8) (T := q_T8) (N := 39) (idx := 57) (ref := "ProofDeskModel") (by decide +kernel) rfl q_in8 (by decide) (x_up mw_658) rfl, ?_⟩
  refine List.forall_mem_cons.2 ⟨s_aload_n (k := 0) (by decide +kernel) rfl, ?_⟩
  refine List.forall_mem_cons.2 ⟨s_getfield (C := q_n8) (T := q_T8) (N := 39) (idx := 223) (ref := "ProofDeskModel") (by decide +kernel) rfl q_in8 (by decide) (x_up mw_793) rfl, ?_⟩
  refine List.forall_mem_cons.2 ⟨s_iald (by decide +kernel) rfl, ?_⟩
  refine List.forall_mem_cons.2 ⟨s_putfield (C := q_n8) (T := q_T8) (N := 39) (idx := 101) (ref := "ProofDeskModel") q_t8 (by decide +kernel) rfl q_in8 q_ty8 q_nm8 (by decide) (x_up mw_676) rfl rfl (by decide +kernel), ?_⟩
  refine List.forall_mem_cons.2 ⟨s_iconst (k := 0) (by decide +kernel) (by decide +kernel), ?_⟩
  refine List.forall_mem_cons.2 ⟨s_istore_n (k := 1) (by decide +kernel) rfl (by decide), ?_⟩
  refine List.forall_mem_cons.2 ⟨s_iload_n (k := 1) (by decide +kernel) rfl, ?_⟩
  refine List.forall_mem_cons.2 ⟨s_aload_n (k := 0) (by decide +kernel) rfl, ?_⟩
  refine List.forall_mem_cons.2 ⟨s_getfield (C := q_n8) (T := q_T8) (N := 39) (idx := 101) (ref := "ProofDeskModel") (by decide +kernel) rfl q_in8 (by decide) (x_up mw_676) rfl, ?_⟩
  refine List.forall_mem_cons.2 ⟨s_icmp_ge (off := 21) (by decide +kernel) (by decide), ?_⟩
  refine List.forall_mem_cons.2 ⟨s_aload_n (k := 0) (by decide +kernel) rfl, ?_⟩
  refine List.forall_mem_cons.2 ⟨s_getfield (C := q_n8) (T := q_T8) (N := 39) (idx := 42) (ref := "ProofDeskModel") (by decide +kernel) rfl q_in8 (by decide) (x_up mw_653) rfl, ?_⟩
  refine List.forall_mem_cons.2 ⟨s_iload_n (k := 1) (by decide +kernel) rfl, ?_⟩
  refine List.forall_mem_cons.2 ⟨s_aload_n (k := 0) (by decide +kernel) rfl, ?_⟩
  refine List.forall_mem_cons.2 ⟨s_getfield (C := q_n8) (T := q_T8) (N := 39) (idx := 54) (ref := "ProofDeskModel") (by decide +kernel) rfl q_in8 (by decide) (x_up mw_657) rfl, ?_⟩
  refine List.forall_mem_cons.2 ⟨s_iload_n (k := 1) (by decide +kernel) rfl, ?_⟩
  refine List.forall_mem_cons.2 ⟨s_iald (by decide +kernel) rfl, ?_⟩
  refine List.forall_mem_cons.2 ⟨s_iast (by decide +kernel) rfl, ?_⟩
  refine List.forall_mem_cons.2 ⟨s_iinc (k := 1) (by decide +kernel) (by decide +kernel) (by decide), ?_⟩
  refine List.forall_mem_cons.2 ⟨s_goto (off := -23) (by decide +kernel) (by decide), ?_⟩
  refine List.forall_mem_cons.2 ⟨s_iconst (k := 0) (by decide +kernel) (by decide +kernel), ?_⟩
  refine List.forall_mem_cons.2 ⟨s_istore_n (k := 1) (by decide +kernel) rfl (by decide), ?_⟩
  refine List.forall_mem_cons.2 ⟨s_iload_n (k := 1) (by decide +kernel) rfl, ?_⟩
  refine List.forall_mem_cons.2 ⟨s_aload_n (k := 0) (by decide +kernel) rfl, ?_⟩
  refine List.forall_mem_cons.2 ⟨s_getfield (C := q_n8) (T := q_T8) (N := 39) (idx := 223) (ref := "ProofDeskModel") (by decide +kernel) rfl q_in8 (by decide) (x_up mw_793) rfl, ?_⟩
  refine List.forall_mem_cons.2 ⟨s_icmp_gt (off := 21) (by decide +kernel) (by decide), ?_⟩
  refine List.forall_mem_cons.2 ⟨s_aload_n (k := 0) (by decide +kernel) rfl, ?_⟩
  refine List.forall_mem_cons.2 ⟨s_getfield (C := q_n8) (T := q_T8) (N := 39) (idx := 45) (ref := "ProofDeskModel") (by decide +kernel) rfl q_in8 (by decide) (x_up mw_654) rfl, ?_⟩
  refine List.forall_mem_cons.2 ⟨s_iload_n (k := 1) (by decide +kernel) rfl, ?_⟩
  refine List.forall_mem_cons.2 ⟨s_aload_n (k := 0) (by decide +kernel) rfl, ?_⟩
  refine List.forall_mem_cons.2 ⟨s_getfield (C := q_n8) (T := q_T8) (N := 39) (idx := 57) (ref := "ProofDeskModel") (by decide +kernel) rfl q_in8 (by decide) (x_up mw_658) rfl, ?_⟩
  refine List.forall_mem_cons.2 ⟨s_iload_n (k := 1) (by decide +kernel) rfl, ?_⟩
  refine List.forall_mem_cons.2 ⟨s_iald (by decide +kernel) rfl, ?_⟩
  exact fun _ h => absurd h List.not_mem_nil
def q_k123_1 : List (Nat × xO) := [(70, x_ast 71 0 (fun x => x)), (71, x_iinc 74 1 (1)), (74, x_st (x_goto 51)), (77, x_st (x_push 78 (.int (0)))), (78, x_sti 79 1), (79, x_ldi 80 1), (80, x_lda 81 0), (81, x_gf 84 8 28), (84, x_st (x_icge 105 87)), (87, x_lda 88 0), (88, x_gf 91 8 20), (91, x_ldi 92 1), (92, x_lda 93 0), (93, x_gf 96 8 27), (96, x_ldi 97 1), (97, x_ald 98 1), (98, x_ast 99 1 (fun x => vp_nar .boolean x)), (99, x_iinc 102 1 (1)), (102, x_st (x_goto 79)), (105, x_st (x_push 106 (.int (0)))), (106, x_sti 107 1), (107, x_ldi 108 1), (108, x_st (x_push 110 (.int (26)))), (110, x_st (x_icge 131 113)), (113, x_lda 114 0), (114, x_gf 117 8 10), (117, x_ldi 118 1), (118, x_lda 119 0), (119, x_gf 122 8 11), (122, x_ldi 123 1), (123, x_ald 124 0), (124, x_ast 125 0 (fun x => x)), (125, x_iinc 128 1 (1)), (128, x_st (x_goto 107)), (131, x_rv)]
set_option maxRecDepth 100000 in
set_option maxHeartbeats 4000000 in
theorem q_s123_1 (l : Launch) (s0 : State) : ∀ q ∈ q_k123_1, x_Sim (x_K s0) none l q_y123 q_c123 2 none q_w123 q.1 q.2 := by
  unfold q_k123_1
  refine List.forall_mem_cons.2 ⟨s_iast (by decide +kernel) rfl, ?_⟩
  refine List.forall_mem_cons.2 ⟨s_iinc (k := 1) (by decide +kernel) (by decide +kernel) (by decide), ?_⟩
  refine List.forall_mem_cons.2 ⟨s_goto (off := -23) (by decide +kernel) (by decide), ?_⟩
  refine List.forall_mem_cons.2 ⟨s_iconst (k := 0) (by decide +kernel) (by decide +kernel), ?_⟩
  refine List.forall_mem_cons.2 ⟨s_istore_n (k := 1) (by decide +kernel) rfl (by decide), ?_⟩
  refine List.forall_mem_cons.2 ⟨s_iload_n (k := 1) (by decide +kernel) rfl, ?_⟩
  refine List.forall_mem_cons.2 ⟨s_aload_n (k := 0) (by decide +kernel) rfl, ?_⟩
  refine List.forall_mem_cons.2 ⟨s_getfield (C := q_n8) (T := q_T8) (N := 39) (idx := 223) (ref := "ProofDeskModel") (by decide +kernel) rfl q_in8 (by decide) (x_up mw_793) rfl, ?_⟩
  refine List.forall_mem_cons.2 ⟨s_icmp_ge (off := 21) (by decide +kernel) (by decide), ?_⟩
  refine List.forall_mem_cons.2 ⟨s_aload_n (k := 0) (by decide +kernel) rfl, ?_⟩
  refine List.forall_mem_cons.2 ⟨s_getfield (C := q_n8) (T := q_T8) (N := 39) (idx := 51) (ref := "ProofDeskModel") (by decide +kernel) rfl q_in8 (by decide) (x_up mw_656) rfl, ?_⟩
  refine List.forall_mem_cons.2 ⟨s_iload_n (k := 1) (by decide +kernel) rfl, ?_⟩
  refine List.forall_mem_cons.2 ⟨s_aload_n (k := 0) (by decide +kernel) rfl, ?_⟩
  refine List.forall_mem_cons.2 ⟨s_getfield (C := q_n8) (T := q_T8) (N := 39) (idx := 60) (ref := "ProofDeskModel") (by decide +kernel) rfl q_in8 (by decide) (x_up mw_659) rfl, ?_⟩
  refine List.forall_mem_cons.2 ⟨s_iload_n (k := 1) (by decide +kernel) rfl, ?_⟩
  refine List.forall_mem_cons.2 ⟨s_zald (by decide +kernel) rfl, ?_⟩
  refine List.forall_mem_cons.2 ⟨s_zast (by decide +kernel) rfl, ?_⟩
  refine List.forall_mem_cons.2 ⟨s_iinc (k := 1) (by decide +kernel) (by decide +kernel) (by decide), ?_⟩
  refine List.forall_mem_cons.2 ⟨s_goto (off := -23) (by decide +kernel) (by decide), ?_⟩
  refine List.forall_mem_cons.2 ⟨s_iconst (k := 0) (by decide +kernel) (by decide +kernel), ?_⟩
  refine List.forall_mem_cons.2 ⟨s_istore_n (k := 1) (by decide +kernel) rfl (by decide), ?_⟩
  refine List.forall_mem_cons.2 ⟨s_iload_n (k := 1) (by decide +kernel) rfl, ?_⟩
  refine List.forall_mem_cons.2 ⟨s_bipush (k := 26) (by decide +kernel) (by decide +kernel), ?_⟩
  refine List.forall_mem_cons.2 ⟨s_icmp_ge (off := 21) (by decide +kernel) (by decide), ?_⟩
  refine List.forall_mem_cons.2 ⟨s_aload_n (k := 0) (by decide +kernel) rfl, ?_⟩
  refine List.forall_mem_cons.2 ⟨s_getfield (C := q_n8) (T := q_T8) (N := 39) (idx := 32) (ref := "ProofDeskModel") (by decide +kernel) rfl q_in8 (by decide) (x_up mw_650) rfl, ?_⟩
  refine List.forall_mem_cons.2 ⟨s_iload_n (k := 1) (by decide +kernel) rfl, ?_⟩
  refine List.forall_mem_cons.2 ⟨s_aload_n (k := 0) (by decide +kernel) rfl, ?_⟩
  refine List.forall_mem_cons.2 ⟨s_getfield (C := q_n8) (T := q_T8) (N := 39) (idx := 35) (ref := "ProofDeskModel") (by decide +kernel) rfl q_in8 (by decide) (x_up mw_651) rfl, ?_⟩
  refine List.forall_mem_cons.2 ⟨s_iload_n (k := 1) (by decide +kernel) rfl, ?_⟩
  refine List.forall_mem_cons.2 ⟨s_iald (by decide +kernel) rfl, ?_⟩
  refine List.forall_mem_cons.2 ⟨s_iast (by decide +kernel) rfl, ?_⟩
  refine List.forall_mem_cons.2 ⟨s_iinc (k := 1) (by decide +kernel) (by decide +kernel) (by decide), ?_⟩
  refine List.forall_mem_cons.2 ⟨s_goto (off := -21) (by decide +kernel) (by decide), ?_⟩
  refine List.forall_mem_cons.2 ⟨s_return (by decide +kernel) rfl, ?_⟩
  exact fun _ h => absurd h List.not_mem_nil
def q_k123 : List (Nat × xO) := q_k123_0 ++ q_k123_1
theorem q_s123 (l : Launch) (s0 : State) : ∀ q ∈ q_k123, x_Sim (x_K s0) none l q_y123 q_c123 2 none q_w123 q.1 q.2 := by
  intro q hq
  simp only [q_k123, List.mem_append] at hq
  rcases hq with h0 | h1
  · exact q_s123_0 l s0 q h0
  · exact q_s123_1 l s0 q h1
/-- ProofDeskModel.isClaim()Z -/
def q_k124_0 : List (Nat × xO) := [(0, x_lda 1 0), (1, x_gf 4 8 22), (4, x_lda 5 0), (5, x_gf 8 8 28), (8, x_st (x_icne 31 11)), (11, x_lda 12 0), (12, x_gf 15 8 21), (15, x_lda 16 0), (16, x_gf 19 8 26), (19, x_lda 20 0), (20, x_gf 23 8 28), (23, x_ald 24 0), (24, x_st (x_icne 31 27)), (27, x_st (x_push 28 (.int (1)))), (28, x_st (x_goto 32)), (31, x_st (x_push 32 (.int (0)))), (32, x_sti 33 1), (33, x_st (x_push 34 (.int (0)))), (34, x_sti 35 2), (35, x_ldi 36 2), (36, x_lda 37 0), (37, x_gf 40 8 22), (40, x_st (x_icge 89 43)), (43, x_ldi 44 1), (44, x_st (x_ifeq 89 47)), (47, x_lda 48 0), (48, x_gf 51 8 20), (51, x_ldi 52 2), (52, x_ald 53 1), (53, x_lda 54 0), (54, x_gf 57 8 27), (57, x_ldi 58 2), (58, x_ald 59 1), (59, x_st (x_icne 81 62)), (62, x_lda 63 0), (63, x_gf 66 8 18), (66, x_ldi 67 2), (67, x_ald 68 0), (68, x_lda 69 0), (69, x_gf 72 8 26)]
set_option maxRecDepth 100000 in
set_option maxHeartbeats 4000000 in
theorem q_s124_0 (l : Launch) (s0 : State) : ∀ q ∈ q_k124_0, x_Sim (x_K s0) none l q_y124 q_c124 3 (some .boolean) q_w124 q.1 q.2 := by
  unfold q_k124_0
  refine List.forall_mem_cons.2 ⟨s_aload_n (k := 0) (by decide +kernel) rfl, ?_⟩
  refine List.forall_mem_cons.2 ⟨s_getfield (C := q_n8) (T := q_T8) (N := 39) (idx := 130) (ref := "ProofDeskModel") (by decide +kernel) rfl q_in8 (by decide) (x_up mw_697) rfl, ?_⟩
  refine List.forall_mem_cons.2 ⟨s_aload_n (k := 0) (by decide +kernel) rfl, ?_⟩
  refine List.forall_mem_cons.2 ⟨s_getfield (C := q_n8) (T := q_T8) (N := 39) (idx := 223) (ref := "ProofDeskModel") (by decide +kernel) rfl q_in8 (by decide) (x_up mw_793) rfl, ?_⟩
  refine List.forall_mem_cons.2 ⟨s_icmp_ne (off := 23) (by decide +kernel) (by decide), ?_⟩
  refine List.forall_mem_cons.2 ⟨s_aload_n (k := 0) (by decide +kernel) rfl, ?_⟩
  refine List.forall_mem_cons.2 ⟨s_getfield (C := q_n8) (T := q_T8) (N := 39) (idx := 101) (ref := "ProofDeskModel") (by decide +kernel) rfl q_in8 (by decide) (x_up mw_676) rfl, ?_⟩
  refine List.forall_mem_cons.2 ⟨s_aload_n (k := 0) (by decide +kernel) rfl, ?_⟩
  refine List.forall_mem_cons.2 ⟨s_getfield (C := q_n8) (T := q_T8) (N := 39) (idx := 57) (ref := "ProofDeskModel") (by decide +kernel) rfl q_in8 (by decide) (x_up mw_658) rfl, ?_⟩
  refine List.forall_mem_cons.2 ⟨s_aload_n (k := 0) (by decide +kernel) rfl, ?_⟩
  refine List.forall_mem_cons.2 ⟨s_getfield (C := q_n8) (T := q_T8) (N := 39) (idx := 223) (ref := "ProofDeskModel") (by decide +kernel) rfl q_in8 (by decide) (x_up mw_793) rfl, ?_⟩
  refine List.forall_mem_cons.2 ⟨s_iald (by decide +kernel) rfl, ?_⟩
  refine List.forall_mem_cons.2 ⟨s_icmp_ne (off := 7) (by decide +kernel) (by decide), ?_⟩
  refine List.forall_mem_cons.2 ⟨s_iconst (k := 1) (by decide +kernel) (by decide +kernel), ?_⟩
  refine List.forall_mem_cons.2 ⟨s_goto (off := 4) (by decide +kernel) (by decide), ?_⟩
  refine List.forall_mem_cons.2 ⟨s_iconst (k := 0) (by decide +kernel) (by decide +kernel), ?_⟩
  refine List.forall_mem_cons.2 ⟨s_istore_n (k := 1) (by decide +kernel) rfl (by decide), ?_⟩
  refine List.forall_mem_cons.2 ⟨s_iconst (k := 0) (by decide +kernel) (by decide +kernel), ?_⟩
  refine List.forall_mem_cons.2 ⟨s_istore_n (k := 2) (by decide +kernel) rfl (by decide), ?_⟩
  refine List.forall_mem_cons.2 ⟨s_iload_n (k := 2) (by decide +kernel) rfl, ?_⟩
  refine List.forall_mem_cons.2 ⟨s_aload_n (k := 0) (by decide +kernel) rfl, ?_⟩
  refine List.forall_mem_cons.2 ⟨s_getfield (C := q_n8) (T := q_T8) (N := 39) (idx := 130) (ref := "ProofDeskModel") (by decide +kernel) rfl q_in8 (by decide) (x_up mw_697) rfl, ?_⟩
  refine List.forall_mem_cons.2 ⟨s_icmp_ge (off := 49) (by decide +kernel) (by decide), ?_⟩
  refine List.forall_mem_cons.2 ⟨s_iload_n (k := 1) (by decide +kernel) rfl, ?_⟩
  refine List.forall_mem_cons.2 ⟨s_ifeq (off := 45) (by decide +kernel) (by decide), ?_⟩
  refine List.forall_mem_cons.2 ⟨s_aload_n (k := 0) (by decide +kernel) rfl, ?_⟩
  refine List.forall_mem_cons.2 ⟨s_getfield (C := q_n8) (T := q_T8) (N := 39) (idx := 51) (ref := "ProofDeskModel") (by decide +kernel) rfl q_in8 (by decide) (x_up mw_656) rfl, ?_⟩
  refine List.forall_mem_cons.2 ⟨s_iload_n (k := 2) (by decide +kernel) rfl, ?_⟩
  refine List.forall_mem_cons.2 ⟨s_zald (by decide +kernel) rfl, ?_⟩
  refine List.forall_mem_cons.2 ⟨s_aload_n (k := 0) (by decide +kernel) rfl, ?_⟩
  refine List.forall_mem_cons.2 ⟨s_getfield (C := q_n8) (T := q_T8) (N := 39) (idx := 60) (ref := "ProofDeskModel") (by decide +kernel) rfl q_in8 (by decide) (x_up mw_659) rfl, ?_⟩
  refine List.forall_mem_cons.2 ⟨s_iload_n (k := 2) (by decide +kernel) rfl, ?_⟩
  refine List.forall_mem_cons.2 ⟨s_zald (by decide +kernel) rfl, ?_⟩
  refine List.forall_mem_cons.2 ⟨s_icmp_ne (off := 22) (by decide +kernel) (by decide), ?_⟩
  refine List.forall_mem_cons.2 ⟨s_aload_n (k := 0) (by decide +kernel) rfl, ?_⟩
  refine List.forall_mem_cons.2 ⟨s_getfield (C := q_n8) (T := q_T8) (N := 39) (idx := 45) (ref := "ProofDeskModel") (by decide +kernel) rfl q_in8 (by decide) (x_up mw_654) rfl, ?_⟩
  refine List.forall_mem_cons.2 ⟨s_iload_n (k := 2) (by decide +kernel) rfl, ?_⟩
  refine List.forall_mem_cons.2 ⟨s_iald (by decide +kernel) rfl, ?_⟩
  refine List.forall_mem_cons.2 ⟨s_aload_n (k := 0) (by decide +kernel) rfl, ?_⟩
  refine List.forall_mem_cons.2 ⟨s_getfield (C := q_n8) (T := q_T8) (N := 39) (idx := 57) (ref := "ProofDeskModel") (by decide +kernel) rfl q_in8 (by decide) (x_up mw_658) rfl, ?_⟩
  exact fun _ h => absurd h List.not_mem_nil
def q_k124_1 : List (Nat × xO) := [(72, x_ldi 73 2), (73, x_ald 74 0), (74, x_st (x_icne 81 77)), (77, x_st (x_push 78 (.int (1)))), (78, x_st (x_goto 82)), (81, x_st (x_push 82 (.int (0)))), (82, x_sti 83 1), (83, x_iinc 86 2 (1)), (86, x_st (x_goto 35)), (89, x_st (x_push 90 (.int (0)))), (90, x_sti 91 2), (91, x_ldi 92 2), (92, x_lda 93 0), (93, x_gf 96 8 21), (96, x_st (x_icge 130 99)), (99, x_ldi 100 1), (100, x_st (x_ifeq 130 103)), (103, x_lda 104 0), (104, x_gf 107 8 17), (107, x_ldi 108 2), (108, x_ald 109 0), (109, x_lda 110 0), (110, x_gf 113 8 25), (113, x_ldi 114 2), (114, x_ald 115 0), (115, x_st (x_icne 122 118)), (118, x_st (x_push 119 (.int (1)))), (119, x_st (x_goto 123)), (122, x_st (x_push 123 (.int (0)))), (123, x_sti 124 1), (124, x_iinc 127 2 (1)), (127, x_st (x_goto 91)), (130, x_ldi 131 1), (131, x_ri (.boolean))]
set_option maxRecDepth 100000 in
set_option maxHeartbeats 4000000 in
theorem q_s124_1 (l : Launch) (s0 : State) : ∀ q ∈ q_k124_1, x_Sim (x_K s0) none l q_y124 q_c124 3 (some .boolean) q_w124 q.1 q.2 := by
  unfold q_k124_1
  refine List.forall_mem_cons.2 ⟨s_iload_n (k := 2) (by decide +kernel) rfl, ?_⟩
  refine List.forall_mem_cons.2 ⟨s_iald (by decide +kernel) rfl, ?_⟩
  refine List.forall_mem_cons.2 ⟨s_icmp_ne (off := 7) (by decide +kernel) (by decide), ?_⟩
  refine List.forall_mem_cons.2 ⟨s_iconst (k := 1) (by decide +kernel) (by decide +kernel), ?_⟩
  refine List.forall_mem_cons.2 ⟨s_goto (off := 4) (by decide +kernel) (by decide), ?_⟩
  refine List.forall_mem_cons.2 ⟨s_iconst (k := 0) (by decide +kernel) (by decide +kernel), ?_⟩
  refine List.forall_mem_cons.2 ⟨s_istore_n (k := 1) (by decide +kernel) rfl (by decide), ?_⟩
  refine List.forall_mem_cons.2 ⟨s_iinc (k := 1) (by decide +kernel) (by decide +kernel) (by decide), ?_⟩
  refine List.forall_mem_cons.2 ⟨s_goto (off := -51) (by decide +kernel) (by decide), ?_⟩
  refine List.forall_mem_cons.2 ⟨s_iconst (k := 0) (by decide +kernel) (by decide +kernel), ?_⟩
  refine List.forall_mem_cons.2 ⟨s_istore_n (k := 2) (by decide +kernel) rfl (by decide), ?_⟩
  refine List.forall_mem_cons.2 ⟨s_iload_n (k := 2) (by decide +kernel) rfl, ?_⟩
  refine List.forall_mem_cons.2 ⟨s_aload_n (k := 0) (by decide +kernel) rfl, ?_⟩
  refine List.forall_mem_cons.2 ⟨s_getfield (C := q_n8) (T := q_T8) (N := 39) (idx := 101) (ref := "ProofDeskModel") (by decide +kernel) rfl q_in8 (by decide) (x_up mw_676) rfl, ?_⟩
  refine List.forall_mem_cons.2 ⟨s_icmp_ge (off := 34) (by decide +kernel) (by decide), ?_⟩
  refine List.forall_mem_cons.2 ⟨s_iload_n (k := 1) (by decide +kernel) rfl, ?_⟩
  refine List.forall_mem_cons.2 ⟨s_ifeq (off := 30) (by decide +kernel) (by decide), ?_⟩
  refine List.forall_mem_cons.2 ⟨s_aload_n (k := 0) (by decide +kernel) rfl, ?_⟩
  refine List.forall_mem_cons.2 ⟨s_getfield (C := q_n8) (T := q_T8) (N := 39) (idx := 42) (ref := "ProofDeskModel") (by decide +kernel) rfl q_in8 (by decide) (x_up mw_653) rfl, ?_⟩
  refine List.forall_mem_cons.2 ⟨s_iload_n (k := 2) (by decide +kernel) rfl, ?_⟩
  refine List.forall_mem_cons.2 ⟨s_iald (by decide +kernel) rfl, ?_⟩
  refine List.forall_mem_cons.2 ⟨s_aload_n (k := 0) (by decide +kernel) rfl, ?_⟩
  refine List.forall_mem_cons.2 ⟨s_getfield (C := q_n8) (T := q_T8) (N := 39) (idx := 54) (ref := "ProofDeskModel") (by decide +kernel) rfl q_in8 (by decide) (x_up mw_657) rfl, ?_⟩
  refine List.forall_mem_cons.2 ⟨s_iload_n (k := 2) (by decide +kernel) rfl, ?_⟩
  refine List.forall_mem_cons.2 ⟨s_iald (by decide +kernel) rfl, ?_⟩
  refine List.forall_mem_cons.2 ⟨s_icmp_ne (off := 7) (by decide +kernel) (by decide), ?_⟩
  refine List.forall_mem_cons.2 ⟨s_iconst (k := 1) (by decide +kernel) (by decide +kernel), ?_⟩
  refine List.forall_mem_cons.2 ⟨s_goto (off := 4) (by decide +kernel) (by decide), ?_⟩
  refine List.forall_mem_cons.2 ⟨s_iconst (k := 0) (by decide +kernel) (by decide +kernel), ?_⟩
  refine List.forall_mem_cons.2 ⟨s_istore_n (k := 1) (by decide +kernel) rfl (by decide), ?_⟩
  refine List.forall_mem_cons.2 ⟨s_iinc (k := 1) (by decide +kernel) (by decide +kernel) (by decide), ?_⟩
  refine List.forall_mem_cons.2 ⟨s_goto (off := -36) (by decide +kernel) (by decide), ?_⟩
  refine List.forall_mem_cons.2 ⟨s_iload_n (k := 1) (by decide +kernel) rfl, ?_⟩
  refine List.forall_mem_cons.2 ⟨s_ireturn (ty := .boolean) (by decide +kernel) rfl, ?_⟩
  exact fun _ h => absurd h List.not_mem_nil
def q_k124 : List (Nat × xO) := q_k124_0 ++ q_k124_1
theorem q_s124 (l : Launch) (s0 : State) : ∀ q ∈ q_k124, x_Sim (x_K s0) none l q_y124 q_c124 3 (some .boolean) q_w124 q.1 q.2 := by
  intro q hq
  simp only [q_k124, List.mem_append] at hq
  rcases hq with h0 | h1
  · exact q_s124_0 l s0 q h0
  · exact q_s124_1 l s0 q h1
/-- ProofDeskModel.made(IIIIII)I -/
def q_k125_0 : List (Nat × xO) := [(0, x_st (x_push 1 (.int (0)))), (1, x_sti 3 7), (3, x_ldi 5 7), (5, x_st (x_push 7 (.int (52)))), (7, x_st (x_icge 24 10)), (10, x_lda 11 0), (11, x_gf 14 8 30), (14, x_ldi 16 7), (16, x_st (x_push 17 (.int (-1)))), (17, x_ast 18 0 (fun x => x)), (18, x_iinc 21 7 (1)), (21, x_st (x_goto 3)), (24, x_lda 25 0), (25, x_ldi 26 2), (26, x_st (x_push 27 (.int (0)))), (27, x_st (x_push 28 (.int (0)))), (28, x_cv 31 110 4 8), (31, x_ldi 32 1), (32, x_st (x_ifeq 40 35)), (35, x_ldi 36 1), (36, x_st (x_push 37 (.int (3)))), (37, x_st (x_icne 44 40)), (40, x_st (x_push 41 (.int (1)))), (41, x_st (x_goto 45)), (44, x_st (x_push 45 (.int (0)))), (45, x_sti 47 7), (47, x_ldi 49 7), (49, x_st (x_ifeq 62 52)), (52, x_lda 53 0), (53, x_ldi 55 4), (55, x_st (x_push 57 (.int (44)))), (57, x_st (x_push 59 (.int (26)))), (59, x_cv 62 110 4 8), (62, x_lda 63 0), (63, x_gf 66 8 4), (66, x_st (x_push 68 (.int (7)))), (68, x_ldi 69 2), (69, x_st (x_bin 70 (fun a b => a * b))), (70, x_ldi 71 3), (71, x_st (x_bin 72 (fun a b => a + b)))]
set_option maxRecDepth 100000 in
set_option maxHeartbeats 4000000 in
theorem q_s125_0 (l : Launch) (s0 : State) : ∀ q ∈ q_k125_0, x_Sim (x_K s0) none l q_y125 q_c125 20 (some .int) q_w125 q.1 q.2 := by
  unfold q_k125_0
  refine List.forall_mem_cons.2 ⟨s_iconst (k := 0) (by decide +kernel) (by decide +kernel), ?_⟩
  refine List.forall_mem_cons.2 ⟨s_istore (by decide +kernel) (by decide), ?_⟩
  refine List.forall_mem_cons.2 ⟨s_iload (by decide +kernel), ?_⟩
  refine List.forall_mem_cons.2 ⟨s_bipush (k := 52) (by decide +kernel) (by decide +kernel), ?_⟩
  refine List.forall_mem_cons.2 ⟨s_icmp_ge (off := 17) (by decide +kernel) (by decide), ?_⟩
  refine List.forall_mem_cons.2 ⟨s_aload_n (k := 0) (by decide +kernel) rfl, ?_⟩
  refine List.forall_mem_cons.2 ⟨s_getfield (C := q_n8) (T := q_T8) (N := 39) (idx := 66) (ref := "ProofDeskModel") (by decide +kernel) rfl q_in8 (by decide) (x_up mw_661) rfl, ?_⟩
  refine List.forall_mem_cons.2 ⟨s_iload (by decide +kernel), ?_⟩
  refine List.forall_mem_cons.2 ⟨s_iconst (k := -1) (by decide +kernel) (by decide +kernel), ?_⟩
  refine List.forall_mem_cons.2 ⟨s_iast (by decide +kernel) rfl, ?_⟩
  refine List.forall_mem_cons.2 ⟨s_iinc (k := 1) (by decide +kernel) (by decide +kernel) (by decide), ?_⟩
  refine List.forall_mem_cons.2 ⟨s_goto (off := -18) (by decide +kernel) (by decide), ?_⟩
  refine List.forall_mem_cons.2 ⟨s_aload_n (k := 0) (by decide +kernel) rfl, ?_⟩
  refine List.forall_mem_cons.2 ⟨s_iload_n (k := 2) (by decide +kernel) rfl, ?_⟩
  refine List.forall_mem_cons.2 ⟨s_iconst (k := 0) (by decide +kernel) (by decide +kernel), ?_⟩
  refine List.forall_mem_cons.2 ⟨s_iconst (k := 0) (by decide +kernel) (by decide +kernel), ?_⟩
  refine List.forall_mem_cons.2 ⟨s_invokevirtual (idx := 194) (M := 110) (k := 3) (ci := 8) (C := q_n8) (T := q_T8) (N := 39) (ym := q_y110) (wm := q_w110) (by decide +kernel) rfl rfl rfl (x_gdV mw_762 mw_763 mw_764 mw_675 mw_761) rfl (by decide +kernel) (by decide), ?_⟩
  refine List.forall_mem_cons.2 ⟨s_iload_n (k := 1) (by decide +kernel) rfl, ?_⟩
  refine List.forall_mem_cons.2 ⟨s_ifeq (off := 8) (by decide +kernel) (by decide), ?_⟩
  refine List.forall_mem_cons.2 ⟨s_iload_n (k := 1) (by decide +kernel) rfl, ?_⟩
  refine List.forall_mem_cons.2 ⟨s_iconst (k := 3) (by decide +kernel) (by decide +kernel), ?_⟩
  refine List.forall_mem_cons.2 ⟨s_icmp_ne (off := 7) (by decide +kernel) (by decide), ?_⟩
  refine List.forall_mem_cons.2 ⟨s_iconst (k := 1) (by decide +kernel) (by decide +kernel), ?_⟩
  refine List.forall_mem_cons.2 ⟨s_goto (off := 4) (by decide +kernel) (by decide), ?_⟩
  refine List.forall_mem_cons.2 ⟨s_iconst (k := 0) (by decide +kernel) (by decide +kernel), ?_⟩
  refine List.forall_mem_cons.2 ⟨s_istore (by decide +kernel) (by decide), ?_⟩
  refine List.forall_mem_cons.2 ⟨s_iload (by decide +kernel), ?_⟩
  refine List.forall_mem_cons.2 ⟨s_ifeq (off := 13) (by decide +kernel) (by decide), ?_⟩
  refine List.forall_mem_cons.2 ⟨s_aload_n (k := 0) (by decide +kernel) rfl, ?_⟩
  refine List.forall_mem_cons.2 ⟨s_iload (by decide +kernel), ?_⟩
  refine List.forall_mem_cons.2 ⟨s_bipush (k := 44) (by decide +kernel) (by decide +kernel), ?_⟩
  refine List.forall_mem_cons.2 ⟨s_bipush (k := 26) (by decide +kernel) (by decide +kernel), ?_⟩
  refine List.forall_mem_cons.2 ⟨s_invokevirtual (idx := 194) (M := 110) (k := 3) (ci := 8) (C := q_n8) (T := q_T8) (N := 39) (ym := q_y110) (wm := q_w110) (by decide +kernel) rfl rfl rfl (x_gdV mw_762 mw_763 mw_764 mw_675 mw_761) rfl (by decide +kernel) (by decide), ?_⟩
  refine List.forall_mem_cons.2 ⟨s_aload_n (k := 0) (by decide +kernel) rfl, ?_⟩
  refine List.forall_mem_cons.2 ⟨s_getfield (C := q_n8) (T := q_T8) (N := 39) (idx := 13) (ref := "ProofDeskModel") (by decide +kernel) rfl q_in8 (by decide) (x_up mw_644) rfl, ?_⟩
  refine List.forall_mem_cons.2 ⟨s_bipush (k := 7) (by decide +kernel) (by decide +kernel), ?_⟩
  refine List.forall_mem_cons.2 ⟨s_iload_n (k := 2) (by decide +kernel) rfl, ?_⟩
  refine List.forall_mem_cons.2 ⟨s_imul (by decide +kernel), ?_⟩
  refine List.forall_mem_cons.2 ⟨s_iload_n (k := 3) (by decide +kernel) rfl, ?_⟩
  refine List.forall_mem_cons.2 ⟨s_iadd (by decide +kernel), ?_⟩
  exact fun _ h => absurd h List.not_mem_nil
def q_k125_1 : List (Nat × xO) := [(72, x_ald 73 0), (73, x_sti 75 8), (75, x_ldi 77 7), (77, x_st (x_ifeq 85 80)), (80, x_ldi 82 4), (82, x_st (x_goto 86)), (85, x_ldi 86 2), (86, x_sti 88 9), (88, x_ldi 89 1), (89, x_st (x_push 90 (.int (2)))), (90, x_st (x_icne 98 93)), (93, x_ldi 95 8), (95, x_st (x_goto 123)), (98, x_ldi 100 7), (100, x_st (x_ifeq 108 103)), (103, x_st (x_push 105 (.int (44)))), (105, x_st (x_goto 109)), (108, x_st (x_push 109 (.int (0)))), (109, x_lda 110 0), (110, x_gf 113 8 4), (113, x_st (x_push 115 (.int (7)))), (115, x_ldi 117 9), (117, x_st (x_bin 118 (fun a b => a * b))), (118, x_ldi 120 5), (120, x_st (x_bin 121 (fun a b => a + b))), (121, x_ald 122 0), (122, x_st (x_bin 123 (fun a b => a + b))), (123, x_sti 125 10), (125, x_lda 126 0), (126, x_gf 129 8 8), (129, x_st (x_push 131 (.int (7)))), (131, x_ldi 132 2), (132, x_st (x_bin 133 (fun a b => a * b))), (133, x_ldi 134 3), (134, x_st (x_bin 135 (fun a b => a + b))), (135, x_ald 136 1), (136, x_sti 138 11), (138, x_ldi 139 1), (139, x_st (x_push 140 (.int (2)))), (140, x_st (x_iceq 163 143))]
set_option maxRecDepth 100000 in
set_option maxHeartbeats 4000000 in
theorem q_s125_1 (l : Launch) (s0 : State) : ∀ q ∈ q_k125_1, x_Sim (x_K s0) none l q_y125 q_c125 20 (some .int) q_w125 q.1 q.2 := by
  unfold q_k125_1
  refine List.forall_mem_cons.2 ⟨s_iald (by decide +kernel) rfl, ?_⟩
  refine List.forall_mem_cons.2 ⟨s_istore (by decide +kernel) (by decide), ?_⟩
  refine List.forall_mem_cons.2 ⟨s_iload (by decide +kernel), ?_⟩
  refine List.forall_mem_cons.2 ⟨s_ifeq (off := 8) (by decide +kernel) (by decide), ?_⟩
  refine List.forall_mem_cons.2 ⟨s_iload (by decide +kernel), ?_⟩
  refine List.forall_mem_cons.2 ⟨s_goto (off := 4) (by decide +kernel) (by decide), ?_⟩
  refine List.forall_mem_cons.2 ⟨s_iload_n (k := 2) (by decide +kernel) rfl, ?_⟩
  refine List.forall_mem_cons.2 ⟨s_istore (by decide +kernel) (by decide), ?_⟩
  refine List.forall_mem_cons.2 ⟨s_iload_n (k := 1) (by decide +kernel) rfl, ?_⟩
  refine List.forall_mem_cons.2 ⟨s_iconst (k := 2) (by decide +kernel) (by decide +kernel), ?_⟩
  refine List.forall_mem_cons.2 ⟨s_icmp_ne (off := 8) (by decide +kernel) (by decide), ?_⟩
  refine List.forall_mem_cons.2 ⟨s_iload (by decide +kernel), ?_⟩
  refine List.forall_mem_cons.2 ⟨s_goto (off := 28) (by decide +kernel) (by decide), ?_⟩
  refine List.forall_mem_cons.2 ⟨s_iload (by decide +kernel), ?_⟩
  refine List.forall_mem_cons.2 ⟨s_ifeq (off := 8) (by decide +kernel) (by decide), ?_⟩
  refine List.forall_mem_cons.2 ⟨s_bipush (k := 44) (by decide +kernel) (by decide +kernel), ?_⟩
  refine List.forall_mem_cons.2 ⟨s_goto (off := 4) (by decide +kernel) (by decide), ?_⟩
  refine List.forall_mem_cons.2 ⟨s_iconst (k := 0) (by decide +kernel) (by decide +kernel), ?_⟩
  refine List.forall_mem_cons.2 ⟨s_aload_n (k := 0) (by decide +kernel) rfl, ?_⟩
  refine List.forall_mem_cons.2 ⟨s_getfield (C := q_n8) (T := q_T8) (N := 39) (idx := 13) (ref := "ProofDeskModel") (by decide +kernel) rfl q_in8 (by decide) (x_up mw_644) rfl, ?_⟩
  refine List.forall_mem_cons.2 ⟨s_bipush (k := 7) (by decide +kernel) (by decide +kernel), ?_⟩
  refine List.forall_mem_cons.2 ⟨s_iload (by decide +kernel), ?_⟩
  refine List.forall_mem_cons.2 ⟨s_imul (by decide +kernel), ?_⟩
  refine List.forall_mem_cons.2 ⟨s_iload (by decide +kernel), ?_⟩
  refine List.forall_mem_cons.2 ⟨s_iadd (by decide +kernel), ?_⟩
  refine List.forall_mem_cons.2 ⟨s_iald (by decide +kernel) rfl, ?_⟩
  refine List.forall_mem_cons.2 ⟨s_iadd (by decide +kernel), ?_⟩
  refine List.forall_mem_cons.2 ⟨s_istore (by decide +kernel) (by decide), ?_⟩
  refine List.forall_mem_cons.2 ⟨s_aload_n (k := 0) (by decide +kernel) rfl, ?_⟩
  refine List.forall_mem_cons.2 ⟨s_getfield (C := q_n8) (T := q_T8) (N := 39) (idx := 25) (ref := "ProofDeskModel") (by decide +kernel) rfl q_in8 (by decide) (x_up mw_648) rfl, ?_⟩
  refine List.forall_mem_cons.2 ⟨s_bipush (k := 7) (by decide +kernel) (by decide +kernel), ?_⟩
  refine List.forall_mem_cons.2 ⟨s_iload_n (k := 2) (by decide +kernel) rfl, ?_⟩
  refine List.forall_mem_cons.2 ⟨s_imul (by decide +kernel), ?_⟩
  refine List.forall_mem_cons.2 ⟨s_iload_n (k := 3) (by decide +kernel) rfl, ?_⟩
  refine List.forall_mem_cons.2 ⟨s_iadd (by decide +kernel), ?_⟩
  refine List.forall_mem_cons.2 ⟨s_zald (by decide +kernel) rfl, ?_⟩
  refine List.forall_mem_cons.2 ⟨s_istore (by decide +kernel) (by decide), ?_⟩
  refine List.forall_mem_cons.2 ⟨s_iload_n (k := 1) (by decide +kernel) rfl, ?_⟩
  refine List.forall_mem_cons.2 ⟨s_iconst (k := 2) (by decide +kernel) (by decide +kernel), ?_⟩
  refine List.forall_mem_cons.2 ⟨s_icmp_eq (off := 23) (by decide +kernel) (by decide), ?_⟩
  exact fun _ h => absurd h List.not_mem_nil
def q_k125_2 : List (Nat × xO) := [(143, x_lda 144 0), (144, x_gf 147 8 8), (147, x_st (x_push 149 (.int (7)))), (149, x_ldi 151 9), (151, x_st (x_bin 152 (fun a b => a * b))), (152, x_ldi 154 5), (154, x_st (x_bin 155 (fun a b => a + b))), (155, x_ald 156 1), (156, x_st (x_ifeq 163 159)), (159, x_st (x_push 160 (.int (1)))), (160, x_st (x_goto 164)), (163, x_st (x_push 164 (.int (0)))), (164, x_sti 166 12), (166, x_ldi 167 1), (167, x_st (x_ifne 185 170)), (170, x_ldi 172 11), (172, x_ldi 174 12), (174, x_st (x_iceq 181 177)), (177, x_st (x_push 178 (.int (1)))), (178, x_st (x_goto 243)), (181, x_st (x_push 182 (.int (0)))), (182, x_st (x_goto 243)), (185, x_ldi 186 1), (186, x_st (x_push 187 (.int (1)))), (187, x_st (x_icne 211 190)), (190, x_ldi 191 3), (191, x_ldi 193 5), (193, x_st (x_iceq 207 196)), (196, x_ldi 198 11), (198, x_ldi 200 12), (200, x_st (x_icne 207 203)), (203, x_st (x_push 204 (.int (1)))), (204, x_st (x_goto 243)), (207, x_st (x_push 208 (.int (0)))), (208, x_st (x_goto 243)), (211, x_lda 212 0), (212, x_gf 215 8 29), (215, x_ldi 217 8), (217, x_ald 218 0), (218, x_st (x_push 220 (.int (99))))]
set_option maxRecDepth 100000 in
set_option maxHeartbeats 4000000 in
theorem q_s125_2 (l : Launch) (s0 : State) : ∀ q ∈ q_k125_2, x_Sim (x_K s0) none l q_y125 q_c125 20 (some .int) q_w125 q.1 q.2 := by
  unfold q_k125_2
  refine List.forall_mem_cons.2 ⟨s_aload_n (k := 0) (by decide +kernel) rfl, ?_⟩
  refine List.forall_mem_cons.2 ⟨s_getfield (C := q_n8) (T := q_T8) (N := 39) (idx := 25) (ref := "ProofDeskModel") (by decide +kernel) rfl q_in8 (by decide) (x_up mw_648) rfl, ?_⟩
  refine List.forall_mem_cons.2 ⟨s_bipush (k := 7) (by decide +kernel) (by decide +kernel), ?_⟩
  refine List.forall_mem_cons.2 ⟨s_iload (by decide +kernel), ?_⟩
  refine List.forall_mem_cons.2 ⟨s_imul (by decide +kernel), ?_⟩
  refine List.forall_mem_cons.2 ⟨s_iload (by decide +kernel), ?_⟩
  refine List.forall_mem_cons.2 ⟨s_iadd (by decide +kernel), ?_⟩
  refine List.forall_mem_cons.2 ⟨s_zald (by decide +kernel) rfl, ?_⟩
  refine List.forall_mem_cons.2 ⟨s_ifeq (off := 7) (by decide +kernel) (by decide), ?_⟩
  refine List.forall_mem_cons.2 ⟨s_iconst (k := 1) (by decide +kernel) (by decide +kernel), ?_⟩
  refine List.forall_mem_cons.2 ⟨s_goto (off := 4) (by decide +kernel) (by decide), ?_⟩
  refine List.forall_mem_cons.2 ⟨s_iconst (k := 0) (by decide +kernel) (by decide +kernel), ?_⟩
  refine List.forall_mem_cons.2 ⟨s_istore (by decide +kernel) (by decide), ?_⟩
  refine List.forall_mem_cons.2 ⟨s_iload_n (k := 1) (by decide +kernel) rfl, ?_⟩
  refine List.forall_mem_cons.2 ⟨s_ifne (off := 18) (by decide +kernel) (by decide), ?_⟩
  refine List.forall_mem_cons.2 ⟨s_iload (by decide +kernel), ?_⟩
  refine List.forall_mem_cons.2 ⟨s_iload (by decide +kernel), ?_⟩
  refine List.forall_mem_cons.2 ⟨s_icmp_eq (off := 7) (by decide +kernel) (by decide), ?_⟩
  refine List.forall_mem_cons.2 ⟨s_iconst (k := 1) (by decide +kernel) (by decide +kernel), ?_⟩
  refine List.forall_mem_cons.2 ⟨s_goto (off := 65) (by decide +kernel) (by decide), ?_⟩
  refine List.forall_mem_cons.2 ⟨s_iconst (k := 0) (by decide +kernel) (by decide +kernel), ?_⟩
  refine List.forall_mem_cons.2 ⟨s_goto (off := 61) (by decide +kernel) (by decide), ?_⟩
  refine List.forall_mem_cons.2 ⟨s_iload_n (k := 1) (by decide +kernel) rfl, ?_⟩
  refine List.forall_mem_cons.2 ⟨s_iconst (k := 1) (by decide +kernel) (by decide +kernel), ?_⟩
  refine List.forall_mem_cons.2 ⟨s_icmp_ne (off := 24) (by decide +kernel) (by decide), ?_⟩
  refine List.forall_mem_cons.2 ⟨s_iload_n (k := 3) (by decide +kernel) rfl, ?_⟩
  refine List.forall_mem_cons.2 ⟨s_iload (by decide +kernel), ?_⟩
  refine List.forall_mem_cons.2 ⟨s_icmp_eq (off := 14) (by decide +kernel) (by decide), ?_⟩
  refine List.forall_mem_cons.2 ⟨s_iload (by decide +kernel), ?_⟩
  refine List.forall_mem_cons.2 ⟨s_iload (by decide +kernel), ?_⟩
  refine List.forall_mem_cons.2 ⟨s_icmp_ne (off := 7) (by decide +kernel) (by decide), ?_⟩
  refine List.forall_mem_cons.2 ⟨s_iconst (k := 1) (by decide +kernel) (by decide +kernel), ?_⟩
  refine List.forall_mem_cons.2 ⟨s_goto (off := 39) (by decide +kernel) (by decide), ?_⟩
  refine List.forall_mem_cons.2 ⟨s_iconst (k := 0) (by decide +kernel) (by decide +kernel), ?_⟩
  refine List.forall_mem_cons.2 ⟨s_goto (off := 35) (by decide +kernel) (by decide), ?_⟩
  refine List.forall_mem_cons.2 ⟨s_aload_n (k := 0) (by decide +kernel) rfl, ?_⟩
  refine List.forall_mem_cons.2 ⟨s_getfield (C := q_n8) (T := q_T8) (N := 39) (idx := 63) (ref := "ProofDeskModel") (by decide +kernel) rfl q_in8 (by decide) (x_up mw_660) rfl, ?_⟩
  refine List.forall_mem_cons.2 ⟨s_iload (by decide +kernel), ?_⟩
  refine List.forall_mem_cons.2 ⟨s_iald (by decide +kernel) rfl, ?_⟩
  refine List.forall_mem_cons.2 ⟨s_bipush (k := 99) (by decide +kernel) (by decide +kernel), ?_⟩
  exact fun _ h => absurd h List.not_mem_nil
def q_k125_3 : List (Nat × xO) := [(220, x_st (x_icne 242 223)), (223, x_ldi 225 11), (225, x_ldi 226 1), (226, x_st (x_push 227 (.int (2)))), (227, x_st (x_icne 234 230)), (230, x_st (x_push 231 (.int (1)))), (231, x_st (x_goto 235)), (234, x_st (x_push 235 (.int (0)))), (235, x_st (x_icne 242 238)), (238, x_st (x_push 239 (.int (1)))), (239, x_st (x_goto 243)), (242, x_st (x_push 243 (.int (0)))), (243, x_sti 245 13), (245, x_ldi 247 13), (247, x_st (x_ifne 253 250)), (250, x_st (x_push 252 (.int (-5)))), (252, x_ri (.int)), (253, x_ldi 255 8), (255, x_st (x_push 256 (.int (1)))), (256, x_st (x_bin 257 (fun a b => a + b))), (257, x_sti 259 14), (259, x_lda 260 0), (260, x_gf 263 8 29), (263, x_ldi 265 8), (265, x_ald 266 0), (266, x_st (x_push 268 (.int (99)))), (268, x_st (x_icne 280 271)), (271, x_lda 272 0), (272, x_ldi 274 14), (274, x_cv 277 109 2 8), (277, x_st (x_goto 282)), (280, x_ldi 282 14), (282, x_sti 284 15), (284, x_ldi 286 6), (286, x_st (x_push 288 (.int (100)))), (288, x_st (x_iclt 296 291)), (291, x_ldi 293 15), (293, x_st (x_goto 298)), (296, x_ldi 298 14), (298, x_sti 300 16)]
set_option maxRecDepth 100000 in
set_option maxHeartbeats 4000000 in
theorem q_s125_3 (l : Launch) (s0 : State) : ∀ q ∈ q_k125_3, x_Sim (x_K s0) none l q_y125 q_c125 20 (some .int) q_w125 q.1 q.2 := by
  unfold q_k125_3
  refine List.forall_mem_cons.2 ⟨s_icmp_ne (off := 22) (by decide +kernel) (by decide), ?_⟩
  refine List.forall_mem_cons.2 ⟨s_iload (by decide +kernel), ?_⟩
  refine List.forall_mem_cons.2 ⟨s_iload_n (k := 1) (by decide +kernel) rfl, ?_⟩
  refine List.forall_mem_cons.2 ⟨s_iconst (k := 2) (by decide +kernel) (by decide +kernel), ?_⟩
  refine List.forall_mem_cons.2 ⟨s_icmp_ne (off := 7) (by decide +kernel) (by decide), ?_⟩
  refine List.forall_mem_cons.2 ⟨s_iconst (k := 1) (by decide +kernel) (by decide +kernel), ?_⟩
  refine List.forall_mem_cons.2 ⟨s_goto (off := 4) (by decide +kernel) (by decide), ?_⟩
  refine List.forall_mem_cons.2 ⟨s_iconst (k := 0) (by decide +kernel) (by decide +kernel), ?_⟩
  refine List.forall_mem_cons.2 ⟨s_icmp_ne (off := 7) (by decide +kernel) (by decide), ?_⟩
  refine List.forall_mem_cons.2 ⟨s_iconst (k := 1) (by decide +kernel) (by decide +kernel), ?_⟩
  refine List.forall_mem_cons.2 ⟨s_goto (off := 4) (by decide +kernel) (by decide), ?_⟩
  refine List.forall_mem_cons.2 ⟨s_iconst (k := 0) (by decide +kernel) (by decide +kernel), ?_⟩
  refine List.forall_mem_cons.2 ⟨s_istore (by decide +kernel) (by decide), ?_⟩
  refine List.forall_mem_cons.2 ⟨s_iload (by decide +kernel), ?_⟩
  refine List.forall_mem_cons.2 ⟨s_ifne (off := 6) (by decide +kernel) (by decide), ?_⟩
  refine List.forall_mem_cons.2 ⟨s_bipush (k := -5) (by decide +kernel) (by decide +kernel), ?_⟩
  refine List.forall_mem_cons.2 ⟨s_ireturn (ty := .int) (by decide +kernel) rfl, ?_⟩
  refine List.forall_mem_cons.2 ⟨s_iload (by decide +kernel), ?_⟩
  refine List.forall_mem_cons.2 ⟨s_iconst (k := 1) (by decide +kernel) (by decide +kernel), ?_⟩
  refine List.forall_mem_cons.2 ⟨s_iadd (by decide +kernel), ?_⟩
  refine List.forall_mem_cons.2 ⟨s_istore (by decide +kernel) (by decide), ?_⟩
  refine List.forall_mem_cons.2 ⟨s_aload_n (k := 0) (by decide +kernel) rfl, ?_⟩
  refine List.forall_mem_cons.2 ⟨s_getfield (C := q_n8) (T := q_T8) (N := 39) (idx := 63) (ref := "ProofDeskModel") (by decide +kernel) rfl q_in8 (by decide) (x_up mw_660) rfl, ?_⟩
  refine List.forall_mem_cons.2 ⟨s_iload (by decide +kernel), ?_⟩
  refine List.forall_mem_cons.2 ⟨s_iald (by decide +kernel) rfl, ?_⟩
  refine List.forall_mem_cons.2 ⟨s_bipush (k := 99) (by decide +kernel) (by decide +kernel), ?_⟩
  refine List.forall_mem_cons.2 ⟨s_icmp_ne (off := 12) (by decide +kernel) (by decide), ?_⟩
  refine List.forall_mem_cons.2 ⟨s_aload_n (k := 0) (by decide +kernel) rfl, ?_⟩
  refine List.forall_mem_cons.2 ⟨s_iload (by decide +kernel), ?_⟩
  refine List.forall_mem_cons.2 ⟨s_invokevirtual (idx := 168) (M := 109) (k := 1) (ci := 8) (C := q_n8) (T := q_T8) (N := 39) (ym := q_y109) (wm := q_w109) (by decide +kernel) rfl rfl rfl (x_gdV mw_733 mw_734 mw_735 mw_675 mw_732) rfl (by decide +kernel) (by decide), ?_⟩
  refine List.forall_mem_cons.2 ⟨s_goto (off := 5) (by decide +kernel) (by decide), ?_⟩
  refine List.forall_mem_cons.2 ⟨s_iload (by decide +kernel), ?_⟩
  refine List.forall_mem_cons.2 ⟨s_istore (by decide +kernel) (by decide), ?_⟩
  refine List.forall_mem_cons.2 ⟨s_iload (by decide +kernel), ?_⟩
  refine List.forall_mem_cons.2 ⟨s_bipush (k := 100) (by decide +kernel) (by decide +kernel), ?_⟩
  refine List.forall_mem_cons.2 ⟨s_icmp_lt (off := 8) (by decide +kernel) (by decide), ?_⟩
  refine List.forall_mem_cons.2 ⟨s_iload (by decide +kernel), ?_⟩
  refine List.forall_mem_cons.2 ⟨s_goto (off := 5) (by decide +kernel) (by decide), ?_⟩
  refine List.forall_mem_cons.2 ⟨s_iload (by decide +kernel), ?_⟩
  refine List.forall_mem_cons.2 ⟨s_istore (by decide +kernel) (by decide), ?_⟩
  exact fun _ h => absurd h List.not_mem_nil
def q_k125_4 : List (Nat × xO) := [(300, x_ldi 302 6), (302, x_st (x_push 304 (.int (100)))), (304, x_st (x_iclt 312 307)), (307, x_ldi 309 14), (309, x_st (x_goto 314)), (312, x_ldi 314 15), (314, x_sti 316 17), (316, x_ldi 317 1), (317, x_st (x_push 318 (.int (3)))), (318, x_st (x_icne 358 321)), (321, x_lda 322 0), (322, x_ldi 324 10), (324, x_ldi 326 10), (326, x_lda 327 0), (327, x_ldi 329 9), (329, x_ldi 331 5), (331, x_cv 334 126 3 8), (334, x_st (x_bin 335 (fun a b => a + b))), (335, x_ldi 337 6), (337, x_st (x_push 339 (.int (100)))), (339, x_st (x_iclt 350 342)), (342, x_ldi 344 6), (344, x_st (x_push 346 (.int (100)))), (346, x_st (x_bin 347 (fun a b => a - b))), (347, x_st (x_goto 352)), (350, x_ldi 352 6), (352, x_cv 355 118 4 8), (355, x_st (x_goto 359)), (358, x_st (x_push 359 (.int (0)))), (359, x_sti 361 18), (361, x_ldi 362 1), (362, x_st (x_push 363 (.int (2)))), (363, x_st (x_icge 377 366)), (366, x_lda 367 0), (367, x_ldi 369 8), (369, x_ldi 371 10), (371, x_cv 374 113 3 8), (374, x_st (x_goto 401)), (377, x_ldi 378 1), (378, x_st (x_push 379 (.int (2))))]
set_option maxRecDepth 100000 in
set_option maxHeartbeats 4000000 in
theorem q_s125_4 (l : Launch) (s0 : State) : ∀ q ∈ q_k125_4, x_Sim (x_K s0) none l q_y125 q_c125 20 (some .int) q_w125 q.1 q.2 := by
  unfold q_k125_4
  refine List.forall_mem_cons.2 ⟨s_iload (by decide +kernel), ?_⟩
  refine List.forall_mem_cons.2 ⟨s_bipush (k := 100) (by decide +kernel) (by decide +kernel), ?_⟩
  refine List.forall_mem_cons.2 ⟨s_icmp_lt (off := 8) (by decide +kernel) (by decide), ?_⟩
  refine List.forall_mem_cons.2 ⟨s_iload (by decide +kernel), ?_⟩
  refine List.forall_mem_cons.2 ⟨s_goto (off := 5) (by decide +kernel) (by decide), ?_⟩
  refine List.forall_mem_cons.2 ⟨s_iload (by decide +kernel), ?_⟩
  refine List.forall_mem_cons.2 ⟨s_istore (by decide +kernel) (by decide), ?_⟩
  refine List.forall_mem_cons.2 ⟨s_iload_n (k := 1) (by decide +kernel) rfl, ?_⟩
  refine List.forall_mem_cons.2 ⟨s_iconst (k := 3) (by decide +kernel) (by decide +kernel), ?_⟩
  refine List.forall_mem_cons.2 ⟨s_icmp_ne (off := 40) (by decide +kernel) (by decide), ?_⟩
  refine List.forall_mem_cons.2 ⟨s_aload_n (k := 0) (by decide +kernel) rfl, ?_⟩
  refine List.forall_mem_cons.2 ⟨s_iload (by decide +kernel), ?_⟩
  refine List.forall_mem_cons.2 ⟨s_iload (by decide +kernel), ?_⟩
  refine List.forall_mem_cons.2 ⟨s_aload_n (k := 0) (by decide +kernel) rfl, ?_⟩
  refine List.forall_mem_cons.2 ⟨s_iload (by decide +kernel), ?_⟩
  refine List.forall_mem_cons.2 ⟨s_iload (by decide +kernel), ?_⟩
  refine List.forall_mem_cons.2 ⟨s_invokevirtual (idx := 226) (M := 126) (k := 2) (ci := 8) (C := q_n8) (T := q_T8) (N := 39) (ym := q_y126) (wm := q_w126) (by decide +kernel) rfl rfl rfl (x_gdV mw_795 mw_796 mw_797 mw_675 mw_794) rfl (by decide +kernel) (by decide), ?_⟩
  refine List.forall_mem_cons.2 ⟨s_iadd (by decide +kernel), ?_⟩
  refine List.forall_mem_cons.2 ⟨s_iload (by decide +kernel), ?_⟩
  refine List.forall_mem_cons.2 ⟨s_bipush (k := 100) (by decide +kernel) (by decide +kernel), ?_⟩
  refine List.forall_mem_cons.2 ⟨s_icmp_lt (off := 11) (by decide +kernel) (by decide), ?_⟩
  refine List.forall_mem_cons.2 ⟨s_iload (by decide +kernel), ?_⟩
  refine List.forall_mem_cons.2 ⟨s_bipush (k := 100) (by decide +kernel) (by decide +kernel), ?_⟩
  refine List.forall_mem_cons.2 ⟨s_isub (by decide +kernel), ?_⟩
  refine List.forall_mem_cons.2 ⟨s_goto (off := 5) (by decide +kernel) (by decide), ?_⟩
  refine List.forall_mem_cons.2 ⟨s_iload (by decide +kernel), ?_⟩
  refine List.forall_mem_cons.2 ⟨s_invokevirtual (idx := 198) (M := 118) (k := 3) (ci := 8) (C := q_n8) (T := q_T8) (N := 39) (ym := q_y118) (wm := q_w118) (by decide +kernel) rfl rfl rfl (x_gdV mw_766 mw_767 mw_768 mw_675 mw_765) rfl (by decide +kernel) (by decide), ?_⟩
  refine List.forall_mem_cons.2 ⟨s_goto (off := 4) (by decide +kernel) (by decide), ?_⟩
  refine List.forall_mem_cons.2 ⟨s_iconst (k := 0) (by decide +kernel) (by decide +kernel), ?_⟩
  refine List.forall_mem_cons.2 ⟨s_istore (by decide +kernel) (by decide), ?_⟩
  refine List.forall_mem_cons.2 ⟨s_iload_n (k := 1) (by decide +kernel) rfl, ?_⟩
  refine List.forall_mem_cons.2 ⟨s_iconst (k := 2) (by decide +kernel) (by decide +kernel), ?_⟩
  refine List.forall_mem_cons.2 ⟨s_icmp_ge (off := 14) (by decide +kernel) (by decide), ?_⟩
  refine List.forall_mem_cons.2 ⟨s_aload_n (k := 0) (by decide +kernel) rfl, ?_⟩
  refine List.forall_mem_cons.2 ⟨s_iload (by decide +kernel), ?_⟩
  refine List.forall_mem_cons.2 ⟨s_iload (by decide +kernel), ?_⟩
  refine List.forall_mem_cons.2 ⟨s_invokevirtual (idx := 229) (M := 113) (k := 2) (ci := 8) (C := q_n8) (T := q_T8) (N := 39) (ym := q_y113) (wm := q_w113) (by decide +kernel) rfl rfl rfl (x_gdV mw_799 mw_800 mw_801 mw_675 mw_798) rfl (by decide +kernel) (by decide), ?_⟩
  refine List.forall_mem_cons.2 ⟨s_goto (off := 27) (by decide +kernel) (by decide), ?_⟩
  refine List.forall_mem_cons.2 ⟨s_iload_n (k := 1) (by decide +kernel) rfl, ?_⟩
  refine List.forall_mem_cons.2 ⟨s_iconst (k := 2) (by decide +kernel) (by decide +kernel), ?_⟩
  exact fun _ h => absurd h List.not_mem_nil
def q_k125_5 : List (Nat × xO) := [(379, x_st (x_icne 393 382)), (382, x_lda 383 0), (383, x_ldi 385 14), (385, x_ldi 387 15), (387, x_cv 390 113 3 8), (390, x_st (x_goto 401)), (393, x_lda 394 0), (394, x_ldi 396 16), (396, x_ldi 398 18), (398, x_cv 401 113 3 8), (401, x_sti 403 19), (403, x_ldi 405 19), (405, x_st (x_ifne 411 408)), (408, x_st (x_push 410 (.int (-6)))), (410, x_ri (.int)), (411, x_lda 412 0), (412, x_st (x_push 413 (.int (0)))), (413, x_pf 416 8 21 (.int)), (416, x_lda 417 0), (417, x_st (x_push 418 (.int (0)))), (418, x_pf 421 8 22 (.int)), (421, x_lda 422 0), (422, x_st (x_push 423 (.int (0)))), (423, x_pf 426 8 24 (.boolean)), (426, x_lda 427 0), (427, x_ldi 428 2), (428, x_st (x_push 429 (.int (0)))), (429, x_ldi 430 1), (430, x_st (x_push 431 (.int (1)))), (431, x_st (x_icne 439 434)), (434, x_ldi 436 5), (436, x_st (x_goto 440)), (439, x_ldi 440 3), (440, x_cv 443 117 4 8), (443, x_ldi 444 1), (444, x_st (x_ifne 457 447)), (447, x_lda 448 0), (448, x_ldi 450 4), (450, x_st (x_push 452 (.int (44)))), (452, x_ldi 454 5)]
set_option maxRecDepth 100000 in
set_option maxHeartbeats 4000000 in
theorem q_s125_5 (l : Launch) (s0 : State) : ∀ q ∈ q_k125_5, x_Sim (x_K s0) none l q_y125 q_c125 20 (some .int) q_w125 q.1 q.2 := by
  unfold q_k125_5
  refine List.forall_mem_cons.2 ⟨s_icmp_ne (off := 14) (by decide +kernel) (by decide), ?_⟩
  refine List.forall_mem_cons.2 ⟨s_aload_n (k := 0) (by decide +kernel) rfl, ?_⟩
  refine List.forall_mem_cons.2 ⟨s_iload (by decide +kernel), ?_⟩
  refine List.forall_mem_cons.2 ⟨s_iload (by decide +kernel), ?_⟩
  refine List.forall_mem_cons.2 ⟨s_invokevirtual (idx := 229) (M := 113) (k := 2) (ci := 8) (C := q_n8) (T := q_T8) (N := 39) (ym := q_y113) (wm := q_w113) (by decide +kernel) rfl rfl rfl (x_gdV mw_799 mw_800 mw_801 mw_675 mw_798) rfl (by decide +kernel) (by decide), ?_⟩
  refine List.forall_mem_cons.2 ⟨s_goto (off := 11) (by decide +kernel) (by decide), ?_⟩
  refine List.forall_mem_cons.2 ⟨s_aload_n (k := 0) (by decide +kernel) rfl, ?_⟩
  refine List.forall_mem_cons.2 ⟨s_iload (by decide +kernel), ?_⟩
  refine List.forall_mem_cons.2 ⟨s_iload (by decide +kernel), ?_⟩
  refine List.forall_mem_cons.2 ⟨s_invokevirtual (idx := 229) (M := 113) (k := 2) (ci := 8) (C := q_n8) (T := q_T8) (N := 39) (ym := q_y113) (wm := q_w113) (by decide +kernel) rfl rfl rfl (x_gdV mw_799 mw_800 mw_801 mw_675 mw_798) rfl (by decide +kernel) (by decide), ?_⟩
  refine List.forall_mem_cons.2 ⟨s_istore (by decide +kernel) (by decide), ?_⟩
  refine List.forall_mem_cons.2 ⟨s_iload (by decide +kernel), ?_⟩
  refine List.forall_mem_cons.2 ⟨s_ifne (off := 6) (by decide +kernel) (by decide), ?_⟩
  refine List.forall_mem_cons.2 ⟨s_bipush (k := -6) (by decide +kernel) (by decide +kernel), ?_⟩
  refine List.forall_mem_cons.2 ⟨s_ireturn (ty := .int) (by decide +kernel) rfl, ?_⟩
  refine List.forall_mem_cons.2 ⟨s_aload_n (k := 0) (by decide +kernel) rfl, ?_⟩
  refine List.forall_mem_cons.2 ⟨s_iconst (k := 0) (by decide +kernel) (by decide +kernel), ?_⟩
  refine List.forall_mem_cons.2 ⟨s_putfield (C := q_n8) (T := q_T8) (N := 39) (idx := 101) (ref := "ProofDeskModel") q_t8 (by decide +kernel) rfl q_in8 q_ty8 q_nm8 (by decide) (x_up mw_676) rfl rfl (by decide +kernel), ?_⟩
  refine List.forall_mem_cons.2 ⟨s_aload_n (k := 0) (by decide +kernel) rfl, ?_⟩
  refine List.forall_mem_cons.2 ⟨s_iconst (k := 0) (by decide +kernel) (by decide +kernel), ?_⟩
  refine List.forall_mem_cons.2 ⟨s_putfield (C := q_n8) (T := q_T8) (N := 39) (idx := 130) (ref := "ProofDeskModel") q_t8 (by decide +kernel) rfl q_in8 q_ty8 q_nm8 (by decide) (x_up mw_697) rfl rfl (by decide +kernel), ?_⟩
  refine List.forall_mem_cons.2 ⟨s_aload_n (k := 0) (by decide +kernel) rfl, ?_⟩
  refine List.forall_mem_cons.2 ⟨s_iconst (k := 0) (by decide +kernel) (by decide +kernel), ?_⟩
  refine List.forall_mem_cons.2 ⟨s_putfield (C := q_n8) (T := q_T8) (N := 39) (idx := 178) (ref := "ProofDeskModel") q_t8 (by decide +kernel) rfl q_in8 q_ty8 q_nm8 (by decide) (x_up mw_744) rfl rfl (by decide +kernel), ?_⟩
  refine List.forall_mem_cons.2 ⟨s_aload_n (k := 0) (by decide +kernel) rfl, ?_⟩
  refine List.forall_mem_cons.2 ⟨s_iload_n (k := 2) (by decide +kernel) rfl, ?_⟩
  refine List.forall_mem_cons.2 ⟨s_iconst (k := 0) (by decide +kernel) (by decide +kernel), ?_⟩
  refine List.forall_mem_cons.2 ⟨s_iload_n (k := 1) (by decide +kernel) rfl, ?_⟩
  refine List.forall_mem_cons.2 ⟨s_iconst (k := 1) (by decide +kernel) (by decide +kernel), ?_⟩
  refine List.forall_mem_cons.2 ⟨s_icmp_ne (off := 8) (by decide +kernel) (by decide), ?_⟩
  refine List.forall_mem_cons.2 ⟨s_iload (by decide +kernel), ?_⟩
  refine List.forall_mem_cons.2 ⟨s_goto (off := 4) (by decide +kernel) (by decide), ?_⟩
  refine List.forall_mem_cons.2 ⟨s_iload_n (k := 3) (by decide +kernel) rfl, ?_⟩
  refine List.forall_mem_cons.2 ⟨s_invokevirtual (idx := 232) (M := 117) (k := 3) (ci := 8) (C := q_n8) (T := q_T8) (N := 39) (ym := q_y117) (wm := q_w117) (by decide +kernel) rfl rfl rfl (x_gdV mw_803 mw_804 mw_805 mw_675 mw_802) rfl (by decide +kernel) (by decide), ?_⟩
  refine List.forall_mem_cons.2 ⟨s_iload_n (k := 1) (by decide +kernel) rfl, ?_⟩
  refine List.forall_mem_cons.2 ⟨s_ifne (off := 13) (by decide +kernel) (by decide), ?_⟩
  refine List.forall_mem_cons.2 ⟨s_aload_n (k := 0) (by decide +kernel) rfl, ?_⟩
  refine List.forall_mem_cons.2 ⟨s_iload (by decide +kernel), ?_⟩
  refine List.forall_mem_cons.2 ⟨s_bipush (k := 44) (by decide +kernel) (by decide +kernel), ?_⟩
  refine List.forall_mem_cons.2 ⟨s_iload (by decide +kernel), ?_⟩
  exact fun _ h => absurd h List.not_mem_nil
def q_k125_6 : List (Nat × xO) := [(454, x_cv 457 117 4 8), (457, x_ldi 458 1), (458, x_st (x_push 459 (.int (3)))), (459, x_st (x_icne 474 462)), (462, x_lda 463 0), (463, x_ldi 465 4), (465, x_ldi 467 5), (467, x_ldi 469 18), (469, x_ldi 471 17), (471, x_cv 474 127 5 8), (474, x_lda 475 0), (475, x_gf 478 8 24), (478, x_st (x_ifne 499 481)), (481, x_lda 482 0), (482, x_gf 485 8 22), (485, x_st (x_push 487 (.int (6)))), (487, x_st (x_icgt 499 490)), (490, x_lda 491 0), (491, x_gf 494 8 21), (494, x_st (x_push 496 (.int (40)))), (496, x_st (x_icle 502 499)), (499, x_st (x_push 501 (.int (-7)))), (501, x_ri (.int)), (502, x_lda 503 0), (503, x_cv 506 106 1 8), (506, x_lda 507 0), (507, x_gf 510 8 23), (510, x_st (x_push 512 (.int (26)))), (512, x_st (x_icle 520 515)), (515, x_st (x_push 517 (.int (-7)))), (517, x_st (x_goto 521)), (520, x_st (x_push 521 (.int (0)))), (521, x_ri (.int))]
set_option maxRecDepth 100000 in
set_option maxHeartbeats 4000000 in
theorem q_s125_6 (l : Launch) (s0 : State) : ∀ q ∈ q_k125_6, x_Sim (x_K s0) none l q_y125 q_c125 20 (some .int) q_w125 q.1 q.2 := by
  unfold q_k125_6
  refine List.forall_mem_cons.2 ⟨s_invokevirtual (idx := 232) (M := 117) (k := 3) (ci := 8) (C := q_n8) (T := q_T8) (N := 39) (ym := q_y117) (wm := q_w117) (by decide +kernel) rfl rfl rfl (x_gdV mw_803 mw_804 mw_805 mw_675 mw_802) rfl (by decide +kernel) (by decide), ?_⟩
  refine List.forall_mem_cons.2 ⟨s_iload_n (k := 1) (by decide +kernel) rfl, ?_⟩
  refine List.forall_mem_cons.2 ⟨s_iconst (k := 3) (by decide +kernel) (by decide +kernel), ?_⟩
  refine List.forall_mem_cons.2 ⟨s_icmp_ne (off := 15) (by decide +kernel) (by decide), ?_⟩
  refine List.forall_mem_cons.2 ⟨s_aload_n (k := 0) (by decide +kernel) rfl, ?_⟩
  refine List.forall_mem_cons.2 ⟨s_iload (by decide +kernel), ?_⟩
  refine List.forall_mem_cons.2 ⟨s_iload (by decide +kernel), ?_⟩
  refine List.forall_mem_cons.2 ⟨s_iload (by decide +kernel), ?_⟩
  refine List.forall_mem_cons.2 ⟨s_iload (by decide +kernel), ?_⟩
  refine List.forall_mem_cons.2 ⟨s_invokevirtual (idx := 235) (M := 127) (k := 4) (ci := 8) (C := q_n8) (T := q_T8) (N := 39) (ym := q_y127) (wm := q_w127) (by decide +kernel) rfl rfl rfl (x_gdV mw_807 mw_808 mw_809 mw_675 mw_806) rfl (by decide +kernel) (by decide), ?_⟩
  refine List.forall_mem_cons.2 ⟨s_aload_n (k := 0) (by decide +kernel) rfl, ?_⟩
  refine List.forall_mem_cons.2 ⟨s_getfield (C := q_n8) (T := q_T8) (N := 39) (idx := 178) (ref := "ProofDeskModel") (by decide +kernel) rfl q_in8 (by decide) (x_up mw_744) rfl, ?_⟩
  refine List.forall_mem_cons.2 ⟨s_ifne (off := 21) (by decide +kernel) (by decide), ?_⟩
  refine List.forall_mem_cons.2 ⟨s_aload_n (k := 0) (by decide +kernel) rfl, ?_⟩
  refine List.forall_mem_cons.2 ⟨s_getfield (C := q_n8) (T := q_T8) (N := 39) (idx := 130) (ref := "ProofDeskModel") (by decide +kernel) rfl q_in8 (by decide) (x_up mw_697) rfl, ?_⟩
  refine List.forall_mem_cons.2 ⟨s_bipush (k := 6) (by decide +kernel) (by decide +kernel), ?_⟩
  refine List.forall_mem_cons.2 ⟨s_icmp_gt (off := 12) (by decide +kernel) (by decide), ?_⟩
  refine List.forall_mem_cons.2 ⟨s_aload_n (k := 0) (by decide +kernel) rfl, ?_⟩
  refine List.forall_mem_cons.2 ⟨s_getfield (C := q_n8) (T := q_T8) (N := 39) (idx := 101) (ref := "ProofDeskModel") (by decide +kernel) rfl q_in8 (by decide) (x_up mw_676) rfl, ?_⟩
  refine List.forall_mem_cons.2 ⟨s_bipush (k := 40) (by decide +kernel) (by decide +kernel), ?_⟩
  refine List.forall_mem_cons.2 ⟨s_icmp_le (off := 6) (by decide +kernel) (by decide), ?_⟩
  refine List.forall_mem_cons.2 ⟨s_bipush (k := -7) (by decide +kernel) (by decide +kernel), ?_⟩
  refine List.forall_mem_cons.2 ⟨s_ireturn (ty := .int) (by decide +kernel) rfl, ?_⟩
  refine List.forall_mem_cons.2 ⟨s_aload_n (k := 0) (by decide +kernel) rfl, ?_⟩
  refine List.forall_mem_cons.2 ⟨s_invokevirtual (idx := 161) (M := 106) (k := 0) (ci := 8) (C := q_n8) (T := q_T8) (N := 39) (ym := q_y106) (wm := q_w106) (by decide +kernel) rfl rfl rfl (x_gdV mw_725 mw_726 mw_727 mw_675 mw_724) rfl (by decide +kernel) (by decide), ?_⟩
  refine List.forall_mem_cons.2 ⟨s_aload_n (k := 0) (by decide +kernel) rfl, ?_⟩
  refine List.forall_mem_cons.2 ⟨s_getfield (C := q_n8) (T := q_T8) (N := 39) (idx := 147) (ref := "ProofDeskModel") (by decide +kernel) rfl q_in8 (by decide) (x_up mw_714) rfl, ?_⟩
  refine List.forall_mem_cons.2 ⟨s_bipush (k := 26) (by decide +kernel) (by decide +kernel), ?_⟩
  refine List.forall_mem_cons.2 ⟨s_icmp_le (off := 8) (by decide +kernel) (by decide), ?_⟩
  refine List.forall_mem_cons.2 ⟨s_bipush (k := -7) (by decide +kernel) (by decide +kernel), ?_⟩
  refine List.forall_mem_cons.2 ⟨s_goto (off := 4) (by decide +kernel) (by decide), ?_⟩
  refine List.forall_mem_cons.2 ⟨s_iconst (k := 0) (by decide +kernel) (by decide +kernel), ?_⟩
  refine List.forall_mem_cons.2 ⟨s_ireturn (ty := .int) (by decide +kernel) rfl, ?_⟩
  exact fun _ h => absurd h List.not_mem_nil
def q_k125 : List (Nat × xO) := q_k125_0 ++ q_k125_1 ++ q_k125_2 ++ q_k125_3 ++ q_k125_4 ++ q_k125_5 ++ q_k125_6
theorem q_s125 (l : Launch) (s0 : State) : ∀ q ∈ q_k125, x_Sim (x_K s0) none l q_y125 q_c125 20 (some .int) q_w125 q.1 q.2 := by
  intro q hq
  simp only [q_k125, List.mem_append] at hq
  rcases hq with (((((h0 | h1) | h2) | h3) | h4) | h5) | h6
  · exact q_s125_0 l s0 q h0
  · exact q_s125_1 l s0 q h1
  · exact q_s125_2 l s0 q h2
  · exact q_s125_3 l s0 q h3
  · exact q_s125_4 l s0 q h4
  · exact q_s125_5 l s0 q h5
  · exact q_s125_6 l s0 q h6
