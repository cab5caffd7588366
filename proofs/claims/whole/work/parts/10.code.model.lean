/-- ProofDeskModel.length(II)I -/
def q_k126_0 : List (Nat × xO) := [(0, x_lda 1 0), (1, x_gf 4 8 4), (4, x_st (x_push 6 (.int (7)))), (6, x_ldi 7 1), (7, x_st (x_bin 8 (fun a b => a * b))), (8, x_ldi 9 2), (9, x_st (x_bin 10 (fun a b => a + b))), (10, x_st (x_push 11 (.int (1)))), (11, x_st (x_bin 12 (fun a b => a + b))), (12, x_ald 13 0), (13, x_lda 14 0), (14, x_gf 17 8 4), (17, x_st (x_push 19 (.int (7)))), (19, x_ldi 20 1), (20, x_st (x_bin 21 (fun a b => a * b))), (21, x_ldi 22 2), (22, x_st (x_bin 23 (fun a b => a + b))), (23, x_ald 24 0), (24, x_st (x_bin 25 (fun a b => a - b))), (25, x_ri (.int))]
set_option maxRecDepth 100000 in
set_option maxHeartbeats 4000000 in
theorem q_s126_0 (l : Launch) (s0 : State) : ∀ q ∈ q_k126_0, x_Sim (x_K s0) none l q_y126 q_c126 3 (some .int) q_w126 q.1 q.2 := by
  unfold q_k126_0
  refine List.forall_mem_cons.2 ⟨s_aload_n (k := 0) (by decide +kernel) rfl, ?_⟩
  refine List.forall_mem_cons.2 ⟨s_getfield (C := q_n8) (T := q_T8) (N := 39) (idx := 13) (ref := "ProofDeskModel") (by decide +kernel) rfl q_in8 (by decide) (x_up mw_644) rfl, ?_⟩
  refine List.forall_mem_cons.2 ⟨s_bipush (k := 7) (by decide +kernel) (by decide +kernel), ?_⟩
  refine List.forall_mem_cons.2 ⟨s_iload_n (k := 1) (by decide +kernel) rfl, ?_⟩
  refine List.forall_mem_cons.2 ⟨s_imul (by decide +kernel), ?_⟩
  refine List.forall_mem_cons.2 ⟨s_iload_n (k := 2) (by decide +kernel) rfl, ?_⟩
  refine List.forall_mem_cons.2 ⟨s_iadd (by decide +kernel), ?_⟩
  refine List.forall_mem_cons.2 ⟨s_iconst (k := 1) (by decide +kernel) (by decide +kernel), ?_⟩
  refine List.forall_mem_cons.2 ⟨s_iadd (by decide +kernel), ?_⟩
  refine List.forall_mem_cons.2 ⟨s_iald (by decide +kernel) rfl, ?_⟩
  refine List.forall_mem_cons.2 ⟨s_aload_n (k := 0) (by decide +kernel) rfl, ?_⟩
  refine List.forall_mem_cons.2 ⟨s_getfield (C := q_n8) (T := q_T8) (N := 39) (idx := 13) (ref := "ProofDeskModel") (by decide +kernel) rfl q_in8 (by decide) (x_up mw_644) rfl, ?_⟩
  refine List.forall_mem_cons.2 ⟨s_bipush (k := 7) (by decide +kernel) (by decide +kernel), ?_⟩
  refine List.forall_mem_cons.2 ⟨s_iload_n (k := 1) (by decide +kernel) rfl, ?_⟩
  refine List.forall_mem_cons.2 ⟨s_imul (by decide +kernel), ?_⟩
  refine List.forall_mem_cons.2 ⟨s_iload_n (k := 2) (by decide +kernel) rfl, ?_⟩
  refine List.forall_mem_cons.2 ⟨s_iadd (by decide +kernel), ?_⟩
  refine List.forall_mem_cons.2 ⟨s_iald (by decide +kernel) rfl, ?_⟩
  refine List.forall_mem_cons.2 ⟨s_isub (by decide +kernel), ?_⟩
  refine List.forall_mem_cons.2 ⟨s_ireturn (ty := .int) (by decide +kernel) rfl, ?_⟩
  exact fun _ h => absurd h List.not_mem_nil
def q_k126 : List (Nat × xO) := q_k126_0
theorem q_s126 (l : Launch) (s0 : State) : ∀ q ∈ q_k126, x_Sim (x_K s0) none l q_y126 q_c126 3 (some .int) q_w126 q.1 q.2 := q_s126_0 l s0
/-- ProofDeskModel.rewritten(IIII)V -/
def q_k127_0 : List (Nat × xO) := [(0, x_st (x_push 1 (.int (0)))), (1, x_sti 3 5), (3, x_ldi 5 5), (5, x_lda 6 0), (6, x_gf 9 8 5), (9, x_ldi 10 1), (10, x_ald 11 0), (11, x_st (x_icge 136 14)), (14, x_lda 15 0), (15, x_gf 18 8 24), (18, x_st (x_ifne 136 21)), (21, x_st (x_push 23 (.int (44)))), (23, x_lda 24 0), (24, x_gf 27 8 4), (27, x_st (x_push 29 (.int (7)))), (29, x_ldi 30 1), (30, x_st (x_bin 31 (fun a b => a * b))), (31, x_ldi 33 5), (33, x_st (x_bin 34 (fun a b => a + b))), (34, x_ald 35 0), (35, x_st (x_bin 36 (fun a b => a + b))), (36, x_sti 38 6), (38, x_st (x_push 40 (.int (44)))), (40, x_lda 41 0), (41, x_gf 44 8 4), (44, x_st (x_push 46 (.int (7)))), (46, x_ldi 47 1), (47, x_st (x_bin 48 (fun a b => a * b))), (48, x_ldi 50 5), (50, x_st (x_bin 51 (fun a b => a + b))), (51, x_st (x_push 52 (.int (1)))), (52, x_st (x_bin 53 (fun a b => a + b))), (53, x_ald 54 0), (54, x_st (x_bin 55 (fun a b => a + b))), (55, x_sti 57 7), (57, x_lda 58 0), (58, x_lda 59 0), (59, x_gf 62 8 8), (62, x_st (x_push 64 (.int (7)))), (64, x_ldi 65 1)]
set_option maxRecDepth 100000 in
set_option maxHeartbeats 4000000 in
theorem q_s127_0 (l : Launch) (s0 : State) : ∀ q ∈ q_k127_0, x_Sim (x_K s0) none l q_y127 q_c127 8 none q_w127 q.1 q.2 := by
  unfold q_k127_0
  refine List.forall_mem_cons.2 ⟨s_iconst (k := 0) (by decide +kernel) (by decide +kernel), ?_⟩
  refine List.forall_mem_cons.2 ⟨s_istore (by decide +kernel) (by decide), ?_⟩
  refine List.forall_mem_cons.2 ⟨s_iload (by decide +kernel), ?_⟩
  refine List.forall_mem_cons.2 ⟨s_aload_n (k := 0) (by decide +kernel) rfl, ?_⟩
  refine List.forall_mem_cons.2 ⟨s_getfield (C := q_n8) (T := q_T8) (N := 39) (idx := 16) (ref := "ProofDeskModel") (by decide +kernel) rfl q_in8 (by decide) (x_up mw_645) rfl, ?_⟩
  refine List.forall_mem_cons.2 ⟨s_iload_n (k := 1) (by decide +kernel) rfl, ?_⟩
  refine List.forall_mem_cons.2 ⟨s_iald (by decide +kernel) rfl, ?_⟩
  refine List.forall_mem_cons.2 ⟨s_icmp_ge (off := 125) (by decide +kernel) (by decide), ?_⟩
  refine List.forall_mem_cons.2 ⟨s_aload_n (k := 0) (by decide +kernel) rfl, ?_⟩
  refine List.forall_mem_cons.2 ⟨s_getfield (C := q_n8) (T := q_T8) (N := 39) (idx := 178) (ref := "ProofDeskModel") (by decide +kernel) rfl q_in8 (by decide) (x_up mw_744) rfl, ?_⟩
  refine List.forall_mem_cons.2 ⟨s_ifne (off := 118) (by decide +kernel) (by decide), ?_⟩
  refine List.forall_mem_cons.2 ⟨s_bipush (k := 44) (by decide +kernel) (by decide +kernel), ?_⟩
  refine List.forall_mem_cons.2 ⟨s_aload_n (k := 0) (by decide +kernel) rfl, ?_⟩
  refine List.forall_mem_cons.2 ⟨s_getfield (C := q_n8) (T := q_T8) (N := 39) (idx := 13) (ref := "ProofDeskModel") (by decide +kernel) rfl q_in8 (by decide) (x_up mw_644) rfl, ?_⟩
  refine List.forall_mem_cons.2 ⟨s_bipush (k := 7) (by decide +kernel) (by decide +kernel), ?_⟩
  refine List.forall_mem_cons.2 ⟨s_iload_n (k := 1) (by decide +kernel) rfl, ?_⟩
  refine List.forall_mem_cons.2 ⟨s_imul (by decide +kernel), ?_⟩
  refine List.forall_mem_cons.2 ⟨s_iload (by decide +kernel), ?_⟩
  refine List.forall_mem_cons.2 ⟨s_iadd (by decide +kernel), ?_⟩
  refine List.forall_mem_cons.2 ⟨s_iald (by decide +kernel) rfl, ?_⟩
  refine List.forall_mem_cons.2 ⟨s_iadd (by decide +kernel), ?_⟩
  refine List.forall_mem_cons.2 ⟨s_istore (by decide +kernel) (by decide), ?_⟩
  refine List.forall_mem_cons.2 ⟨s_bipush (k := 44) (by decide +kernel) (by decide +kernel), ?_⟩
  refine List.forall_mem_cons.2 ⟨s_aload_n (k := 0) (by decide +kernel) rfl, ?_⟩
  refine List.forall_mem_cons.2 ⟨s_getfield (C := q_n8) (T := q_T8) (N := 39) (idx := 13) (ref := "ProofDeskModel") (by decide +kernel) rfl q_in8 (by decide) (x_up mw_644) rfl, ?_⟩
  refine List.forall_mem_cons.2 ⟨s_bipush (k := 7) (by decide +kernel) (by decide +kernel), ?_⟩
  refine List.forall_mem_cons.2 ⟨s_iload_n (k := 1) (by decide +kernel) rfl, ?_⟩
  refine List.forall_mem_cons.2 ⟨s_imul (by decide +kernel), ?_⟩
  refine List.forall_mem_cons.2 ⟨s_iload (by decide +kernel), ?_⟩
  refine List.forall_mem_cons.2 ⟨s_iadd (by decide +kernel), ?_⟩
  refine List.forall_mem_cons.2 ⟨s_iconst (k := 1) (by decide +kernel) (by decide +kernel), ?_⟩
  refine List.forall_mem_cons.2 ⟨s_iadd (by decide +kernel), ?_⟩
  refine List.forall_mem_cons.2 ⟨s_iald (by decide +kernel) rfl, ?_⟩
  refine List.forall_mem_cons.2 ⟨s_iadd (by decide +kernel), ?_⟩
  refine List.forall_mem_cons.2 ⟨s_istore (by decide +kernel) (by decide), ?_⟩
  refine List.forall_mem_cons.2 ⟨s_aload_n (k := 0) (by decide +kernel) rfl, ?_⟩
  refine List.forall_mem_cons.2 ⟨s_aload_n (k := 0) (by decide +kernel) rfl, ?_⟩
  refine List.forall_mem_cons.2 ⟨s_getfield (C := q_n8) (T := q_T8) (N := 39) (idx := 25) (ref := "ProofDeskModel") (by decide +kernel) rfl q_in8 (by decide) (x_up mw_648) rfl, ?_⟩
  refine List.forall_mem_cons.2 ⟨s_bipush (k := 7) (by decide +kernel) (by decide +kernel), ?_⟩
  refine List.forall_mem_cons.2 ⟨s_iload_n (k := 1) (by decide +kernel) rfl, ?_⟩
  exact fun _ h => absurd h List.not_mem_nil
def q_k127_1 : List (Nat × xO) := [(65, x_st (x_bin 66 (fun a b => a * b))), (66, x_ldi 68 5), (68, x_st (x_bin 69 (fun a b => a + b))), (69, x_ald 70 1), (70, x_cv 73 115 2 8), (73, x_lda 74 0), (74, x_ldi 76 6), (76, x_ldi 78 5), (78, x_ldi 79 2), (79, x_st (x_icne 86 82)), (82, x_ldi 83 3), (83, x_st (x_goto 88)), (86, x_ldi 88 7), (88, x_cv 91 114 3 8), (91, x_ldi 93 5), (93, x_ldi 94 2), (94, x_st (x_icne 109 97)), (97, x_lda 98 0), (98, x_ldi 100 4), (100, x_lda 101 0), (101, x_ldi 103 4), (103, x_cv 106 109 2 8), (106, x_cv 109 114 3 8), (109, x_ldi 111 5), (111, x_ldi 112 2), (112, x_st (x_icne 126 115)), (115, x_lda 116 0), (116, x_lda 117 0), (117, x_ldi 118 3), (118, x_cv 121 109 2 8), (121, x_ldi 123 7), (123, x_cv 126 114 3 8), (126, x_lda 127 0), (127, x_cv 130 116 1 8), (130, x_iinc 133 5 (1)), (133, x_st (x_goto 3)), (136, x_rv)]
set_option maxRecDepth 100000 in
set_option maxHeartbeats 4000000 in
theorem q_s127_1 (l : Launch) (s0 : State) : ∀ q ∈ q_k127_1, x_Sim (x_K s0) none l q_y127 q_c127 8 none q_w127 q.1 q.2 := by
  unfold q_k127_1
  refine List.forall_mem_cons.2 ⟨s_imul (by decide +kernel), ?_⟩
  refine List.forall_mem_cons.2 ⟨s_iload (by decide +kernel), ?_⟩
  refine List.forall_mem_cons.2 ⟨s_iadd (by decide +kernel), ?_⟩
  refine List.forall_mem_cons.2 ⟨s_zald (by decide +kernel) rfl, ?_⟩
  refine List.forall_mem_cons.2 ⟨s_invokevirtual (idx := 181) (M := 115) (k := 1) (ci := 8) (C := q_n8) (T := q_T8) (N := 39) (ym := q_y115) (wm := q_w115) (by decide +kernel) rfl rfl rfl (x_gdV mw_746 mw_747 mw_748 mw_675 mw_745) rfl (by decide +kernel) (by decide), ?_⟩
  refine List.forall_mem_cons.2 ⟨s_aload_n (k := 0) (by decide +kernel) rfl, ?_⟩
  refine List.forall_mem_cons.2 ⟨s_iload (by decide +kernel), ?_⟩
  refine List.forall_mem_cons.2 ⟨s_iload (by decide +kernel), ?_⟩
  refine List.forall_mem_cons.2 ⟨s_iload_n (k := 2) (by decide +kernel) rfl, ?_⟩
  refine List.forall_mem_cons.2 ⟨s_icmp_ne (off := 7) (by decide +kernel) (by decide), ?_⟩
  refine List.forall_mem_cons.2 ⟨s_iload_n (k := 3) (by decide +kernel) rfl, ?_⟩
  refine List.forall_mem_cons.2 ⟨s_goto (off := 5) (by decide +kernel) (by decide), ?_⟩
  refine List.forall_mem_cons.2 ⟨s_iload (by decide +kernel), ?_⟩
  refine List.forall_mem_cons.2 ⟨s_invokevirtual (idx := 185) (M := 114) (k := 2) (ci := 8) (C := q_n8) (T := q_T8) (N := 39) (ym := q_y114) (wm := q_w114) (by decide +kernel) rfl rfl rfl (x_gdV mw_750 mw_751 mw_752 mw_675 mw_749) rfl (by decide +kernel) (by decide), ?_⟩
  refine List.forall_mem_cons.2 ⟨s_iload (by decide +kernel), ?_⟩
  refine List.forall_mem_cons.2 ⟨s_iload_n (k := 2) (by decide +kernel) rfl, ?_⟩
  refine List.forall_mem_cons.2 ⟨s_icmp_ne (off := 15) (by decide +kernel) (by decide), ?_⟩
  refine List.forall_mem_cons.2 ⟨s_aload_n (k := 0) (by decide +kernel) rfl, ?_⟩
  refine List.forall_mem_cons.2 ⟨s_iload (by decide +kernel), ?_⟩
  refine List.forall_mem_cons.2 ⟨s_aload_n (k := 0) (by decide +kernel) rfl, ?_⟩
  refine List.forall_mem_cons.2 ⟨s_iload (by decide +kernel), ?_⟩
  refine List.forall_mem_cons.2 ⟨s_invokevirtual (idx := 168) (M := 109) (k := 1) (ci := 8) (C := q_n8) (T := q_T8) (N := 39) (ym := q_y109) (wm := q_w109) (by decide +kernel) rfl rfl rfl (x_gdV mw_733 mw_734 mw_735 mw_675 mw_732) rfl (by decide +kernel) (by decide), ?_⟩
  refine List.forall_mem_cons.2 ⟨s_invokevirtual (idx := 185) (M := 114) (k := 2) (ci := 8) (C := q_n8) (T := q_T8) (N := 39) (ym := q_y114) (wm := q_w114) (by decide +kernel) rfl rfl rfl (x_gdV mw_750 mw_751 mw_752 mw_675 mw_749) rfl (by decide +kernel) (by decide), ?_⟩
  refine List.forall_mem_cons.2 ⟨s_iload (by decide +kernel), ?_⟩
  refine List.forall_mem_cons.2 ⟨s_iload_n (k := 2) (by decide +kernel) rfl, ?_⟩
  refine List.forall_mem_cons.2 ⟨s_icmp_ne (off := 14) (by decide +kernel) (by decide), ?_⟩
  refine List.forall_mem_cons.2 ⟨s_aload_n (k := 0) (by decide +kernel) rfl, ?_⟩
  refine List.forall_mem_cons.2 ⟨s_aload_n (k := 0) (by decide +kernel) rfl, ?_⟩
  refine List.forall_mem_cons.2 ⟨s_iload_n (k := 3) (by decide +kernel) rfl, ?_⟩
  refine List.forall_mem_cons.2 ⟨s_invokevirtual (idx := 168) (M := 109) (k := 1) (ci := 8) (C := q_n8) (T := q_T8) (N := 39) (ym := q_y109) (wm := q_w109) (by decide +kernel) rfl rfl rfl (x_gdV mw_733 mw_734 mw_735 mw_675 mw_732) rfl (by decide +kernel) (by decide), ?_⟩
  refine List.forall_mem_cons.2 ⟨s_iload (by decide +kernel), ?_⟩
  refine List.forall_mem_cons.2 ⟨s_invokevirtual (idx := 185) (M := 114) (k := 2) (ci := 8) (C := q_n8) (T := q_T8) (N := 39) (ym := q_y114) (wm := q_w114) (by decide +kernel) rfl rfl rfl (x_gdV mw_750 mw_751 mw_752 mw_675 mw_749) rfl (by decide +kernel) (by decide), ?_⟩
  refine List.forall_mem_cons.2 ⟨s_aload_n (k := 0) (by decide +kernel) rfl, ?_⟩
  refine List.forall_mem_cons.2 ⟨s_invokevirtual (idx := 188) (M := 116) (k := 0) (ci := 8) (C := q_n8) (T := q_T8) (N := 39) (ym := q_y116) (wm := q_w116) (by decide +kernel) rfl rfl rfl (x_gdV mw_754 mw_755 mw_756 mw_675 mw_753) rfl (by decide +kernel) (by decide), ?_⟩
  refine List.forall_mem_cons.2 ⟨s_iinc (k := 1) (by decide +kernel) (by decide +kernel) (by decide), ?_⟩
  refine List.forall_mem_cons.2 ⟨s_goto (off := -130) (by decide +kernel) (by decide), ?_⟩
  refine List.forall_mem_cons.2 ⟨s_return (by decide +kernel) rfl, ?_⟩
  exact fun _ h => absurd h List.not_mem_nil
def q_k127 : List (Nat × xO) := q_k127_0 ++ q_k127_1
theorem q_s127 (l : Launch) (s0 : State) : ∀ q ∈ q_k127, x_Sim (x_K s0) none l q_y127 q_c127 8 none q_w127 q.1 q.2 := by
  intro q hq
  simp only [q_k127, List.mem_append] at hq
  rcases hq with h0 | h1
  · exact q_s127_0 l s0 q h0
  · exact q_s127_1 l s0 q h1
/-- ProofDeskModel.matches(II)Z -/
def q_k128_0 : List (Nat × xO) := [(0, x_ldi 1 1), (1, x_sti 2 3), (2, x_ldi 3 2), (3, x_sti 5 4), (5, x_lda 6 0), (6, x_ldi 7 1), (7, x_cv 10 109 2 8), (10, x_sti 12 5), (12, x_st (x_push 13 (.int (1)))), (13, x_sti 15 6), (15, x_ldi 16 3), (16, x_ldi 18 5), (18, x_st (x_icge 114 21)), (21, x_ldi 23 6), (23, x_st (x_ifeq 114 26)), (26, x_lda 27 0), (27, x_gf 30 8 29), (30, x_ldi 31 3), (31, x_ald 32 0), (32, x_sti 34 7), (34, x_ldi 36 7), (36, x_st (x_push 38 (.int (99)))), (38, x_st (x_icge 86 41)), (41, x_lda 42 0), (42, x_gf 45 8 30), (45, x_ldi 47 7), (47, x_ald 48 0), (48, x_st (x_ifge 60 51)), (51, x_lda 52 0), (52, x_gf 55 8 30), (55, x_ldi 57 7), (57, x_ldi 59 4), (59, x_ast 60 0 (fun x => x)), (60, x_lda 61 0), (61, x_lda 62 0), (62, x_gf 65 8 30), (65, x_ldi 67 7), (67, x_ald 68 0), (68, x_ldi 70 4), (70, x_cv 73 129 3 8)]
set_option maxRecDepth 100000 in
set_option maxHeartbeats 4000000 in
theorem q_s128_0 (l : Launch) (s0 : State) : ∀ q ∈ q_k128_0, x_Sim (x_K s0) none l q_y128 q_c128 8 (some .boolean) q_w128 q.1 q.2 := by
  unfold q_k128_0
  refine List.forall_mem_cons.2 ⟨s_iload_n (k := 1) (by decide +kernel) rfl, ?_⟩
  refine List.forall_mem_cons.2 ⟨s_istore_n (k := 3) (by decide +kernel) rfl (by decide), ?_⟩
  refine List.forall_mem_cons.2 ⟨s_iload_n (k := 2) (by decide +kernel) rfl, ?_⟩
  refine List.forall_mem_cons.2 ⟨s_istore (by decide +kernel) (by decide), ?_⟩
  refine List.forall_mem_cons.2 ⟨s_aload_n (k := 0) (by decide +kernel) rfl, ?_⟩
  refine List.forall_mem_cons.2 ⟨s_iload_n (k := 1) (by decide +kernel) rfl, ?_⟩
  refine List.forall_mem_cons.2 ⟨s_invokevirtual (idx := 168) (M := 109) (k := 1) (ci := 8) (C := q_n8) (T := q_T8) (N := 39) (ym := q_y109) (wm := q_w109) (by decide +kernel) rfl rfl rfl (x_gdV mw_733 mw_734 mw_735 mw_675 mw_732) rfl (by decide +kernel) (by decide), ?_⟩
  refine List.forall_mem_cons.2 ⟨s_istore (by decide +kernel) (by decide), ?_⟩
  refine List.forall_mem_cons.2 ⟨s_iconst (k := 1) (by decide +kernel) (by decide +kernel), ?_⟩
  refine List.forall_mem_cons.2 ⟨s_istore (by decide +kernel) (by decide), ?_⟩
  refine List.forall_mem_cons.2 ⟨s_iload_n (k := 3) (by decide +kernel) rfl, ?_⟩
  refine List.forall_mem_cons.2 ⟨s_iload (by decide +kernel), ?_⟩
  refine List.forall_mem_cons.2 ⟨s_icmp_ge (off := 96) (by decide +kernel) (by decide), ?_⟩
  refine List.forall_mem_cons.2 ⟨s_iload (by decide +kernel), ?_⟩
  refine List.forall_mem_cons.2 ⟨s_ifeq (off := 91) (by decide +kernel) (by decide), ?_⟩
  refine List.forall_mem_cons.2 ⟨s_aload_n (k := 0) (by decide +kernel) rfl, ?_⟩
  refine List.forall_mem_cons.2 ⟨s_getfield (C := q_n8) (T := q_T8) (N := 39) (idx := 63) (ref := "ProofDeskModel") (by decide +kernel) rfl q_in8 (by decide) (x_up mw_660) rfl, ?_⟩
  refine List.forall_mem_cons.2 ⟨s_iload_n (k := 3) (by decide +kernel) rfl, ?_⟩
  refine List.forall_mem_cons.2 ⟨s_iald (by decide +kernel) rfl, ?_⟩
  refine List.forall_mem_cons.2 ⟨s_istore (by decide +kernel) (by decide), ?_⟩
  refine List.forall_mem_cons.2 ⟨s_iload (by decide +kernel), ?_⟩
  refine List.forall_mem_cons.2 ⟨s_bipush (k := 99) (by decide +kernel) (by decide +kernel), ?_⟩
  refine List.forall_mem_cons.2 ⟨s_icmp_ge (off := 48) (by decide +kernel) (by decide), ?_⟩
  refine List.forall_mem_cons.2 ⟨s_aload_n (k := 0) (by decide +kernel) rfl, ?_⟩
  refine List.forall_mem_cons.2 ⟨s_getfield (C := q_n8) (T := q_T8) (N := 39) (idx := 66) (ref := "ProofDeskModel") (by decide +kernel) rfl q_in8 (by decide) (x_up mw_661) rfl, ?_⟩
  refine List.forall_mem_cons.2 ⟨s_iload (by decide +kernel), ?_⟩
  refine List.forall_mem_cons.2 ⟨s_iald (by decide +kernel) rfl, ?_⟩
  refine List.forall_mem_cons.2 ⟨s_ifge (off := 12) (by decide +kernel) (by decide), ?_⟩
  refine List.forall_mem_cons.2 ⟨s_aload_n (k := 0) (by decide +kernel) rfl, ?_⟩
  refine List.forall_mem_cons.2 ⟨s_getfield (C := q_n8) (T := q_T8) (N := 39) (idx := 66) (ref := "ProofDeskModel") (by decide +kernel) rfl q_in8 (by decide) (x_up mw_661) rfl, ?_⟩
  refine List.forall_mem_cons.2 ⟨s_iload (by decide +kernel), ?_⟩
  refine List.forall_mem_cons.2 ⟨s_iload (by decide +kernel), ?_⟩
  refine List.forall_mem_cons.2 ⟨s_iast (by decide +kernel) rfl, ?_⟩
  refine List.forall_mem_cons.2 ⟨s_aload_n (k := 0) (by decide +kernel) rfl, ?_⟩
  refine List.forall_mem_cons.2 ⟨s_aload_n (k := 0) (by decide +kernel) rfl, ?_⟩
  refine List.forall_mem_cons.2 ⟨s_getfield (C := q_n8) (T := q_T8) (N := 39) (idx := 66) (ref := "ProofDeskModel") (by decide +kernel) rfl q_in8 (by decide) (x_up mw_661) rfl, ?_⟩
  refine List.forall_mem_cons.2 ⟨s_iload (by decide +kernel), ?_⟩
  refine List.forall_mem_cons.2 ⟨s_iald (by decide +kernel) rfl, ?_⟩
  refine List.forall_mem_cons.2 ⟨s_iload (by decide +kernel), ?_⟩
  refine List.forall_mem_cons.2 ⟨s_invokevirtual (idx := 239) (M := 129) (k := 2) (ci := 8) (C := q_n8) (T := q_T8) (N := 39) (ym := q_y129) (wm := q_w129) (by decide +kernel) rfl rfl rfl (x_gdV mw_811 mw_812 mw_813 mw_675 mw_810) rfl (by decide +kernel) (by decide), ?_⟩
  exact fun _ h => absurd h List.not_mem_nil
def q_k128_1 : List (Nat × xO) := [(73, x_sti 75 6), (75, x_lda 76 0), (76, x_ldi 78 4), (78, x_cv 81 109 2 8), (81, x_sti 83 4), (83, x_st (x_goto 108)), (86, x_ldi 88 7), (88, x_lda 89 0), (89, x_gf 92 8 29), (92, x_ldi 94 4), (94, x_ald 95 0), (95, x_st (x_icne 102 98)), (98, x_st (x_push 99 (.int (1)))), (99, x_st (x_goto 103)), (102, x_st (x_push 103 (.int (0)))), (103, x_sti 105 6), (105, x_iinc 108 4 (1)), (108, x_iinc 111 3 (1)), (111, x_st (x_goto 15)), (114, x_ldi 116 6), (116, x_ri (.boolean))]
set_option maxRecDepth 100000 in
set_option maxHeartbeats 4000000 in
theorem q_s128_1 (l : Launch) (s0 : State) : ∀ q ∈ q_k128_1, x_Sim (x_K s0) none l q_y128 q_c128 8 (some .boolean) q_w128 q.1 q.2 := by
  unfold q_k128_1
  refine List.forall_mem_cons.2 ⟨s_istore (by decide +kernel) (by decide), ?_⟩
  refine List.forall_mem_cons.2 ⟨s_aload_n (k := 0) (by decide +kernel) rfl, ?_⟩
  refine List.forall_mem_cons.2 ⟨s_iload (by decide +kernel), ?_⟩
  refine List.forall_mem_cons.2 ⟨s_invokevirtual (idx := 168) (M := 109) (k := 1) (ci := 8) (C := q_n8) (T := q_T8) (N := 39) (ym := q_y109) (wm := q_w109) (by decide +kernel) rfl rfl rfl (x_gdV mw_733 mw_734 mw_735 mw_675 mw_732) rfl (by decide +kernel) (by decide), ?_⟩
  refine List.forall_mem_cons.2 ⟨s_istore (by decide +kernel) (by decide), ?_⟩
  refine List.forall_mem_cons.2 ⟨s_goto (off := 25) (by decide +kernel) (by decide), ?_⟩
  refine List.forall_mem_cons.2 ⟨s_iload (by decide +kernel), ?_⟩
  refine List.forall_mem_cons.2 ⟨s_aload_n (k := 0) (by decide +kernel) rfl, ?_⟩
  refine List.forall_mem_cons.2 ⟨s_getfield (C := q_n8) (T := q_T8) (N := 39) (idx := 63) (ref := "ProofDeskModel") (by decide +kernel) rfl q_in8 (by decide) (x_up mw_660) rfl, ?_⟩
  refine List.forall_mem_cons.2 ⟨s_iload (by decide +kernel), ?_⟩
  refine List.forall_mem_cons.2 ⟨s_iald (by decide +kernel) rfl, ?_⟩
  refine List.forall_mem_cons.2 ⟨s_icmp_ne (off := 7) (by decide +kernel) (by decide), ?_⟩
  refine List.forall_mem_cons.2 ⟨s_iconst (k := 1) (by decide +kernel) (by decide +kernel), ?_⟩
  refine List.forall_mem_cons.2 ⟨s_goto (off := 4) (by decide +kernel) (by decide), ?_⟩
  refine List.forall_mem_cons.2 ⟨s_iconst (k := 0) (by decide +kernel) (by decide +kernel), ?_⟩
  refine List.forall_mem_cons.2 ⟨s_istore (by decide +kernel) (by decide), ?_⟩
  refine List.forall_mem_cons.2 ⟨s_iinc (k := 1) (by decide +kernel) (by decide +kernel) (by decide), ?_⟩
  refine List.forall_mem_cons.2 ⟨s_iinc (k := 1) (by decide +kernel) (by decide +kernel) (by decide), ?_⟩
  refine List.forall_mem_cons.2 ⟨s_goto (off := -96) (by decide +kernel) (by decide), ?_⟩
  refine List.forall_mem_cons.2 ⟨s_iload (by decide +kernel), ?_⟩
  refine List.forall_mem_cons.2 ⟨s_ireturn (ty := .boolean) (by decide +kernel) rfl, ?_⟩
  exact fun _ h => absurd h List.not_mem_nil
def q_k128 : List (Nat × xO) := q_k128_0 ++ q_k128_1
theorem q_s128 (l : Launch) (s0 : State) : ∀ q ∈ q_k128, x_Sim (x_K s0) none l q_y128 q_c128 8 (some .boolean) q_w128 q.1 q.2 := by
  intro q hq
  simp only [q_k128, List.mem_append] at hq
  rcases hq with h0 | h1
  · exact q_s128_0 l s0 q h0
  · exact q_s128_1 l s0 q h1
/-- ProofDeskModel.isSame(II)Z -/
def q_k129_0 : List (Nat × xO) := [(0, x_st (x_push 1 (.int (1)))), (1, x_sti 2 3), (2, x_lda 3 0), (3, x_ldi 4 1), (4, x_cv 7 109 2 8), (7, x_ldi 8 1), (8, x_st (x_bin 9 (fun a b => a - b))), (9, x_sti 11 4), (11, x_st (x_push 12 (.int (0)))), (12, x_sti 14 5), (14, x_ldi 16 5), (16, x_ldi 18 4), (18, x_st (x_icge 58 21)), (21, x_ldi 22 3), (22, x_st (x_ifeq 58 25)), (25, x_lda 26 0), (26, x_gf 29 8 29), (29, x_ldi 30 1), (30, x_ldi 32 5), (32, x_st (x_bin 33 (fun a b => a + b))), (33, x_ald 34 0), (34, x_lda 35 0), (35, x_gf 38 8 29), (38, x_ldi 39 2), (39, x_ldi 41 5), (41, x_st (x_bin 42 (fun a b => a + b))), (42, x_ald 43 0), (43, x_st (x_icne 50 46)), (46, x_st (x_push 47 (.int (1)))), (47, x_st (x_goto 51)), (50, x_st (x_push 51 (.int (0)))), (51, x_sti 52 3), (52, x_iinc 55 5 (1)), (55, x_st (x_goto 14)), (58, x_ldi 59 3), (59, x_ri (.boolean))]
set_option maxRecDepth 100000 in
set_option maxHeartbeats 4000000 in
theorem q_s129_0 (l : Launch) (s0 : State) : ∀ q ∈ q_k129_0, x_Sim (x_K s0) none l q_y129 q_c129 6 (some .boolean) q_w129 q.1 q.2 := by
  unfold q_k129_0
  refine List.forall_mem_cons.2 ⟨s_iconst (k := 1) (by decide +kernel) (by decide +kernel), ?_⟩
  refine List.forall_mem_cons.2 ⟨s_istore_n (k := 3) (by decide +kernel) rfl (by decide), ?_⟩
  refine List.forall_mem_cons.2 ⟨s_aload_n (k := 0) (by decide +kernel) rfl, ?_⟩
  refine List.forall_mem_cons.2 ⟨s_iload_n (k := 1) (by decide +kernel) rfl, ?_⟩
  refine List.forall_mem_cons.2 ⟨s_invokevirtual (idx := 168) (M := 109) (k := 1) (ci := 8) (C := q_n8) (T := q_T8) (N := 39) (ym := q_y109) (wm := q_w109) (by decide +kernel) rfl rfl rfl (x_gdV mw_733 mw_734 mw_735 mw_675 mw_732) rfl (by decide +kernel) (by decide), ?_⟩
  refine List.forall_mem_cons.2 ⟨s_iload_n (k := 1) (by decide +kernel) rfl, ?_⟩
  refine List.forall_mem_cons.2 ⟨s_isub (by decide +kernel), ?_⟩
  refine List.forall_mem_cons.2 ⟨s_istore (by decide +kernel) (by decide), ?_⟩
  refine List.forall_mem_cons.2 ⟨s_iconst (k := 0) (by decide +kernel) (by decide +kernel), ?_⟩
  refine List.forall_mem_cons.2 ⟨s_istore (by decide +kernel) (by decide), ?_⟩
  refine List.forall_mem_cons.2 ⟨s_iload (by decide +kernel), ?_⟩
  refine List.forall_mem_cons.2 ⟨s_iload (by decide +kernel), ?_⟩
  refine List.forall_mem_cons.2 ⟨s_icmp_ge (off := 40) (by decide +kernel) (by decide), ?_⟩
  refine List.forall_mem_cons.2 ⟨s_iload_n (k := 3) (by decide +kernel) rfl, ?_⟩
  refine List.forall_mem_cons.2 ⟨s_ifeq (off := 36) (by decide +kernel) (by decide), ?_⟩
  refine List.forall_mem_cons.2 ⟨s_aload_n (k := 0) (by decide +kernel) rfl, ?_⟩
  refine List.forall_mem_cons.2 ⟨s_getfield (C := q_n8) (T := q_T8) (N := 39) (idx := 63) (ref := "ProofDeskModel") (by decide +kernel) rfl q_in8 (by decide) (x_up mw_660) rfl, ?_⟩
  refine List.forall_mem_cons.2 ⟨s_iload_n (k := 1) (by decide +kernel) rfl, ?_⟩
  refine List.forall_mem_cons.2 ⟨s_iload (by decide +kernel), ?_⟩
  refine List.forall_mem_cons.2 ⟨s_iadd (by decide +kernel), ?_⟩
  refine List.forall_mem_cons.2 ⟨s_iald (by decide +kernel) rfl, ?_⟩
  refine List.forall_mem_cons.2 ⟨s_aload_n (k := 0) (by decide +kernel) rfl, ?_⟩
  refine List.forall_mem_cons.2 ⟨s_getfield (C := q_n8) (T := q_T8) (N := 39) (idx := 63) (ref := "ProofDeskModel") (by decide +kernel) rfl q_in8 (by decide) (x_up mw_660) rfl, ?_⟩
  refine List.forall_mem_cons.2 ⟨s_iload_n (k := 2) (by decide +kernel) rfl, ?_⟩
  refine List.forall_mem_cons.2 ⟨s_iload (by decide +kernel), ?_⟩
  refine List.forall_mem_cons.2 ⟨s_iadd (by decide +kernel), ?_⟩
  refine List.forall_mem_cons.2 ⟨s_iald (by decide +kernel) rfl, ?_⟩
  refine List.forall_mem_cons.2 ⟨s_icmp_ne (off := 7) (by decide +kernel) (by decide), ?_⟩
  refine List.forall_mem_cons.2 ⟨s_iconst (k := 1) (by decide +kernel) (by decide +kernel), ?_⟩
  refine List.forall_mem_cons.2 ⟨s_goto (off := 4) (by decide +kernel) (by decide), ?_⟩
  refine List.forall_mem_cons.2 ⟨s_iconst (k := 0) (by decide +kernel) (by decide +kernel), ?_⟩
  refine List.forall_mem_cons.2 ⟨s_istore_n (k := 3) (by decide +kernel) rfl (by decide), ?_⟩
  refine List.forall_mem_cons.2 ⟨s_iinc (k := 1) (by decide +kernel) (by decide +kernel) (by decide), ?_⟩
  refine List.forall_mem_cons.2 ⟨s_goto (off := -41) (by decide +kernel) (by decide), ?_⟩
  refine List.forall_mem_cons.2 ⟨s_iload_n (k := 3) (by decide +kernel) rfl, ?_⟩
  refine List.forall_mem_cons.2 ⟨s_ireturn (ty := .boolean) (by decide +kernel) rfl, ?_⟩
  exact fun _ h => absurd h List.not_mem_nil
def q_k129 : List (Nat × xO) := q_k129_0
theorem q_s129 (l : Launch) (s0 : State) : ∀ q ∈ q_k129, x_Sim (x_K s0) none l q_y129 q_c129 6 (some .boolean) q_w129 q.1 q.2 := q_s129_0 l s0
/-- ProofDeskModel.special(I)Z -/
def q_k130_0 : List (Nat × xO) := [(0, x_lda 1 0), (1, x_ldi 2 1), (2, x_st (x_push 3 (.int (0)))), (3, x_st (x_push 4 (.int (0)))), (4, x_cv 7 110 4 8), (7, x_st (x_push 8 (.int (0)))), (8, x_sti 9 2), (9, x_ldi 10 2), (10, x_lda 11 0), (11, x_gf 14 8 26), (14, x_lda 15 0), (15, x_gf 18 8 28), (18, x_ald 19 0), (19, x_st (x_icge 43 22)), (22, x_lda 23 0), (23, x_gf 26 8 29), (26, x_st (x_push 28 (.int (88)))), (28, x_ldi 29 2), (29, x_st (x_bin 30 (fun a b => a + b))), (30, x_lda 31 0), (31, x_gf 34 8 25), (34, x_ldi 35 2), (35, x_ald 36 0), (36, x_ast 37 0 (fun x => x)), (37, x_iinc 40 2 (1)), (40, x_st (x_goto 9)), (43, x_lda 44 0), (44, x_gf 47 8 5), (47, x_ldi 48 1), (48, x_ald 49 0), (49, x_sti 50 2), (50, x_ldi 51 2), (51, x_st (x_ifle 63 54)), (54, x_lda 55 0), (55, x_gf 58 8 28), (58, x_st (x_ifne 63 61)), (61, x_st (x_push 62 (.int (0)))), (62, x_ri (.boolean)), (63, x_st (x_push 64 (.int (0)))), (64, x_sti 65 3)]
set_option maxRecDepth 100000 in
set_option maxHeartbeats 4000000 in
theorem q_s130_0 (l : Launch) (s0 : State) : ∀ q ∈ q_k130_0, x_Sim (x_K s0) none l q_y130 q_c130 6 (some .boolean) q_w130 q.1 q.2 := by
  unfold q_k130_0
  refine List.forall_mem_cons.2 ⟨s_aload_n (k := 0) (by decide +kernel) rfl, ?_⟩
  refine List.forall_mem_cons.2 ⟨s_iload_n (k := 1) (by decide +kernel) rfl, ?_⟩
  refine List.forall_mem_cons.2 ⟨s_iconst (k := 0) (by decide +kernel) (by decide +kernel), ?_⟩
  refine List.forall_mem_cons.2 ⟨s_iconst (k := 0) (by decide +kernel) (by decide +kernel), ?_⟩
  refine List.forall_mem_cons.2 ⟨s_invokevirtual (idx := 194) (M := 110) (k := 3) (ci := 8) (C := q_n8) (T := q_T8) (N := 39) (ym := q_y110) (wm := q_w110) (by decide +kernel) rfl rfl rfl (x_gdV mw_762 mw_763 mw_764 mw_675 mw_761) rfl (by decide +kernel) (by decide), ?_⟩
  refine List.forall_mem_cons.2 ⟨s_iconst (k := 0) (by decide +kernel) (by decide +kernel), ?_⟩
  refine List.forall_mem_cons.2 ⟨s_istore_n (k := 2) (by decide +kernel) rfl (by decide), ?_⟩
  refine List.forall_mem_cons.2 ⟨s_iload_n (k := 2) (by decide +kernel) rfl, ?_⟩
  refine List.forall_mem_cons.2 ⟨s_aload_n (k := 0) (by decide +kernel) rfl, ?_⟩
  refine List.forall_mem_cons.2 ⟨s_getfield (C := q_n8) (T := q_T8) (N := 39) (idx := 57) (ref := "ProofDeskModel") (by decide +kernel) rfl q_in8 (by decide) (x_up mw_658) rfl, ?_⟩
  refine List.forall_mem_cons.2 ⟨s_aload_n (k := 0) (by decide +kernel) rfl, ?_⟩
  refine List.forall_mem_cons.2 ⟨s_getfield (C := q_n8) (T := q_T8) (N := 39) (idx := 223) (ref := "ProofDeskModel") (by decide +kernel) rfl q_in8 (by decide) (x_up mw_793) rfl, ?_⟩
  refine List.forall_mem_cons.2 ⟨s_iald (by decide +kernel) rfl, ?_⟩
  refine List.forall_mem_cons.2 ⟨s_icmp_ge (off := 24) (by decide +kernel) (by decide), ?_⟩
  refine List.forall_mem_cons.2 ⟨s_aload_n (k := 0) (by decide +kernel) rfl, ?_⟩
  refine List.forall_mem_cons.2 ⟨s_getfield (C := q_n8) (T := q_T8) (N := 39) (idx := 63) (ref := "ProofDeskModel") (by decide +kernel) rfl q_in8 (by decide) (x_up mw_660) rfl, ?_⟩
  refine List.forall_mem_cons.2 ⟨s_bipush (k := 88) (by decide +kernel) (by decide +kernel), ?_⟩
  refine List.forall_mem_cons.2 ⟨s_iload_n (k := 2) (by decide +kernel) rfl, ?_⟩
  refine List.forall_mem_cons.2 ⟨s_iadd (by decide +kernel), ?_⟩
  refine List.forall_mem_cons.2 ⟨s_aload_n (k := 0) (by decide +kernel) rfl, ?_⟩
  refine List.forall_mem_cons.2 ⟨s_getfield (C := q_n8) (T := q_T8) (N := 39) (idx := 54) (ref := "ProofDeskModel") (by decide +kernel) rfl q_in8 (by decide) (x_up mw_657) rfl, ?_⟩
  refine List.forall_mem_cons.2 ⟨s_iload_n (k := 2) (by decide +kernel) rfl, ?_⟩
  refine List.forall_mem_cons.2 ⟨s_iald (by decide +kernel) rfl, ?_⟩
  refine List.forall_mem_cons.2 ⟨s_iast (by decide +kernel) rfl, ?_⟩
  refine List.forall_mem_cons.2 ⟨s_iinc (k := 1) (by decide +kernel) (by decide +kernel) (by decide), ?_⟩
  refine List.forall_mem_cons.2 ⟨s_goto (off := -31) (by decide +kernel) (by decide), ?_⟩
  refine List.forall_mem_cons.2 ⟨s_aload_n (k := 0) (by decide +kernel) rfl, ?_⟩
  refine List.forall_mem_cons.2 ⟨s_getfield (C := q_n8) (T := q_T8) (N := 39) (idx := 16) (ref := "ProofDeskModel") (by decide +kernel) rfl q_in8 (by decide) (x_up mw_645) rfl, ?_⟩
  refine List.forall_mem_cons.2 ⟨s_iload_n (k := 1) (by decide +kernel) rfl, ?_⟩
  refine List.forall_mem_cons.2 ⟨s_iald (by decide +kernel) rfl, ?_⟩
  refine List.forall_mem_cons.2 ⟨s_istore_n (k := 2) (by decide +kernel) rfl (by decide), ?_⟩
  refine List.forall_mem_cons.2 ⟨s_iload_n (k := 2) (by decide +kernel) rfl, ?_⟩
  refine List.forall_mem_cons.2 ⟨s_ifle (off := 12) (by decide +kernel) (by decide), ?_⟩
  refine List.forall_mem_cons.2 ⟨s_aload_n (k := 0) (by decide +kernel) rfl, ?_⟩
  refine List.forall_mem_cons.2 ⟨s_getfield (C := q_n8) (T := q_T8) (N := 39) (idx := 223) (ref := "ProofDeskModel") (by decide +kernel) rfl q_in8 (by decide) (x_up mw_793) rfl, ?_⟩
  refine List.forall_mem_cons.2 ⟨s_ifne (off := 5) (by decide +kernel) (by decide), ?_⟩
  refine List.forall_mem_cons.2 ⟨s_iconst (k := 0) (by decide +kernel) (by decide +kernel), ?_⟩
  refine List.forall_mem_cons.2 ⟨s_ireturn (ty := .boolean) (by decide +kernel) rfl, ?_⟩
  refine List.forall_mem_cons.2 ⟨s_iconst (k := 0) (by decide +kernel) (by decide +kernel), ?_⟩
  refine List.forall_mem_cons.2 ⟨s_istore_n (k := 3) (by decide +kernel) rfl (by decide), ?_⟩
  exact fun _ h => absurd h List.not_mem_nil
def q_k130_1 : List (Nat × xO) := [(65, x_ldi 66 3), (66, x_ldi 67 2), (67, x_st (x_icge 83 70)), (70, x_lda 71 0), (71, x_gf 74 8 35), (74, x_ldi 75 3), (75, x_st (x_push 76 (.int (0)))), (76, x_ast 77 0 (fun x => x)), (77, x_iinc 80 3 (1)), (80, x_st (x_goto 65)), (83, x_st (x_push 84 (.int (1)))), (84, x_sti 85 3), (85, x_ldi 86 3), (86, x_st (x_ifeq 199 89)), (89, x_lda 90 0), (90, x_ldi 91 1), (91, x_ldi 92 2), (92, x_cv 95 131 3 8), (95, x_sti 97 4), (97, x_ldi 99 4), (99, x_ldi 100 2), (100, x_st (x_icne 105 103)), (103, x_st (x_push 104 (.int (1)))), (104, x_ri (.boolean)), (105, x_ldi 107 4), (107, x_st (x_push 108 (.int (1)))), (108, x_st (x_bin 109 (fun a b => a + b))), (109, x_sti 111 5), (111, x_ldi 113 5), (113, x_ldi 114 2), (114, x_st (x_icge 131 117)), (117, x_lda 118 0), (118, x_gf 121 8 35), (121, x_ldi 123 5), (123, x_st (x_push 124 (.int (0)))), (124, x_ast 125 0 (fun x => x)), (125, x_iinc 128 5 (1)), (128, x_st (x_goto 111)), (131, x_ldi 133 4), (133, x_sti 135 5)]
set_option maxRecDepth 100000 in
set_option maxHeartbeats 4000000 in
theorem q_s130_1 (l : Launch) (s0 : State) : ∀ q ∈ q_k130_1, x_Sim (x_K s0) none l q_y130 q_c130 6 (some .boolean) q_w130 q.1 q.2 := by
  unfold q_k130_1
  refine List.forall_mem_cons.2 ⟨s_iload_n (k := 3) (by decide +kernel) rfl, ?_⟩
  refine List.forall_mem_cons.2 ⟨s_iload_n (k := 2) (by decide +kernel) rfl, ?_⟩
  refine List.forall_mem_cons.2 ⟨s_icmp_ge (off := 16) (by decide +kernel) (by decide), ?_⟩
  refine List.forall_mem_cons.2 ⟨s_aload_n (k := 0) (by decide +kernel) rfl, ?_⟩
  refine List.forall_mem_cons.2 ⟨s_getfield (C := q_n8) (T := q_T8) (N := 39) (idx := 81) (ref := "ProofDeskModel") (by decide +kernel) rfl q_in8 (by decide) (x_up mw_666) rfl, ?_⟩
  refine List.forall_mem_cons.2 ⟨s_iload_n (k := 3) (by decide +kernel) rfl, ?_⟩
  refine List.forall_mem_cons.2 ⟨s_iconst (k := 0) (by decide +kernel) (by decide +kernel), ?_⟩
  refine List.forall_mem_cons.2 ⟨s_iast (by decide +kernel) rfl, ?_⟩
  refine List.forall_mem_cons.2 ⟨s_iinc (k := 1) (by decide +kernel) (by decide +kernel) (by decide), ?_⟩
  refine List.forall_mem_cons.2 ⟨s_goto (off := -15) (by decide +kernel) (by decide), ?_⟩
  refine List.forall_mem_cons.2 ⟨s_iconst (k := 1) (by decide +kernel) (by decide +kernel), ?_⟩
  refine List.forall_mem_cons.2 ⟨s_istore_n (k := 3) (by decide +kernel) rfl (by decide), ?_⟩
  refine List.forall_mem_cons.2 ⟨s_iload_n (k := 3) (by decide +kernel) rfl, ?_⟩
  refine List.forall_mem_cons.2 ⟨s_ifeq (off := 113) (by decide +kernel) (by decide), ?_⟩
  refine List.forall_mem_cons.2 ⟨s_aload_n (k := 0) (by decide +kernel) rfl, ?_⟩
  refine List.forall_mem_cons.2 ⟨s_iload_n (k := 1) (by decide +kernel) rfl, ?_⟩
  refine List.forall_mem_cons.2 ⟨s_iload_n (k := 2) (by decide +kernel) rfl, ?_⟩
  refine List.forall_mem_cons.2 ⟨s_invokevirtual (idx := 242) (M := 131) (k := 2) (ci := 8) (C := q_n8) (T := q_T8) (N := 39) (ym := q_y131) (wm := q_w131) (by decide +kernel) rfl rfl rfl (x_gdV mw_815 mw_816 mw_817 mw_675 mw_814) rfl (by decide +kernel) (by decide), ?_⟩
  refine List.forall_mem_cons.2 ⟨s_istore (by decide +kernel) (by decide), ?_⟩
  refine List.forall_mem_cons.2 ⟨s_iload (by decide +kernel), ?_⟩
  refine List.forall_mem_cons.2 ⟨s_iload_n (k := 2) (by decide +kernel) rfl, ?_⟩
  refine List.forall_mem_cons.2 ⟨s_icmp_ne (off := 5) (by decide +kernel) (by decide), ?_⟩
  refine List.forall_mem_cons.2 ⟨s_iconst (k := 1) (by decide +kernel) (by decide +kernel), ?_⟩
  refine List.forall_mem_cons.2 ⟨s_ireturn (ty := .boolean) (by decide +kernel) rfl, ?_⟩
  refine List.forall_mem_cons.2 ⟨s_iload (by decide +kernel), ?_⟩
  refine List.forall_mem_cons.2 ⟨s_iconst (k := 1) (by decide +kernel) (by decide +kernel), ?_⟩
  refine List.forall_mem_cons.2 ⟨s_iadd (by decide +kernel), ?_⟩
  refine List.forall_mem_cons.2 ⟨s_istore (by decide +kernel) (by decide), ?_⟩
  refine List.forall_mem_cons.2 ⟨s_iload (by decide +kernel), ?_⟩
  refine List.forall_mem_cons.2 ⟨s_iload_n (k := 2) (by decide +kernel) rfl, ?_⟩
  refine List.forall_mem_cons.2 ⟨s_icmp_ge (off := 17) (by decide +kernel) (by decide), ?_⟩
  refine List.forall_mem_cons.2 ⟨s_aload_n (k := 0) (by decide +kernel) rfl, ?_⟩
  refine List.forall_mem_cons.2 ⟨s_getfield (C := q_n8) (T := q_T8) (N := 39) (idx := 81) (ref := "ProofDeskModel") (by decide +kernel) rfl q_in8 (by decide) (x_up mw_666) rfl, ?_⟩
  refine List.forall_mem_cons.2 ⟨s_iload (by decide +kernel), ?_⟩
  refine List.forall_mem_cons.2 ⟨s_iconst (k := 0) (by decide +kernel) (by decide +kernel), ?_⟩
  refine List.forall_mem_cons.2 ⟨s_iast (by decide +kernel) rfl, ?_⟩
  refine List.forall_mem_cons.2 ⟨s_iinc (k := 1) (by decide +kernel) (by decide +kernel) (by decide), ?_⟩
  refine List.forall_mem_cons.2 ⟨s_goto (off := -17) (by decide +kernel) (by decide), ?_⟩
  refine List.forall_mem_cons.2 ⟨s_iload (by decide +kernel), ?_⟩
  refine List.forall_mem_cons.2 ⟨s_istore (by decide +kernel) (by decide), ?_⟩
  exact fun _ h => absurd h List.not_mem_nil
def q_k130_2 : List (Nat × xO) := [(135, x_ldi 137 5), (137, x_st (x_iflt 170 140)), (140, x_lda 141 0), (141, x_gf 144 8 35), (144, x_ldi 146 5), (146, x_ald 147 0), (147, x_lda 148 0), (148, x_gf 151 8 28), (151, x_st (x_push 152 (.int (1)))), (152, x_st (x_bin 153 (fun a b => a - b))), (153, x_st (x_icne 170 156)), (156, x_lda 157 0), (157, x_gf 160 8 35), (160, x_ldi 162 5), (162, x_st (x_push 163 (.int (0)))), (163, x_ast 164 0 (fun x => x)), (164, x_iinc 167 5 (-1)), (167, x_st (x_goto 135)), (170, x_ldi 172 5), (172, x_st (x_iflt 179 175)), (175, x_st (x_push 176 (.int (1)))), (176, x_st (x_goto 180)), (179, x_st (x_push 180 (.int (0)))), (180, x_sti 181 3), (181, x_ldi 182 3), (182, x_st (x_ifeq 196 185)), (185, x_lda 186 0), (186, x_gf 189 8 35), (189, x_ldi 191 5), (191, x_st (x_dup2 192)), (192, x_ald 193 0), (193, x_st (x_push 194 (.int (1)))), (194, x_st (x_bin 195 (fun a b => a + b))), (195, x_ast 196 0 (fun x => x)), (196, x_st (x_goto 85)), (199, x_st (x_push 200 (.int (0)))), (200, x_ri (.boolean))]
set_option maxRecDepth 100000 in
set_option maxHeartbeats 4000000 in
theorem q_s130_2 (l : Launch) (s0 : State) : ∀ q ∈ q_k130_2, x_Sim (x_K s0) none l q_y130 q_c130 6 (some .boolean) q_w130 q.1 q.2 := by
  unfold q_k130_2
  refine List.forall_mem_cons.2 ⟨s_iload (by decide +kernel), ?_⟩
  refine List.forall_mem_cons.2 ⟨s_iflt (off := 33) (by decide +kernel) (by decide), ?_⟩
  refine List.forall_mem_cons.2 ⟨s_aload_n (k := 0) (by decide +kernel) rfl, ?_⟩
  refine List.forall_mem_cons.2 ⟨s_getfield (C := q_n8) (T := q_T8) (N := 39) (idx := 81) (ref := "ProofDeskModel") (by decide +kernel) rfl q_in8 (by decide) (x_up mw_666) rfl, ?_⟩
  refine List.forall_mem_cons.2 ⟨s_iload (by decide +kernel), ?_⟩
  refine List.forall_mem_cons.2 ⟨s_iald (by decide +kernel) rfl, ?_⟩
  refine List.forall_mem_cons.2 ⟨s_aload_n (k := 0) (by decide +kernel) rfl, ?_⟩
  refine List.forall_mem_cons.2 ⟨s_getfield (C := q_n8) (T := q_T8) (N := 39) (idx := 223) (ref := "ProofDeskModel") (by decide +kernel) rfl q_in8 (by decide) (x_up mw_793) rfl, ?_⟩
  refine List.forall_mem_cons.2 ⟨s_iconst (k := 1) (by decide +kernel) (by decide +kernel), ?_⟩
  refine List.forall_mem_cons.2 ⟨s_isub (by decide +kernel), ?_⟩
  refine List.forall_mem_cons.2 ⟨s_icmp_ne (off := 17) (by decide +kernel) (by decide), ?_⟩
  refine List.forall_mem_cons.2 ⟨s_aload_n (k := 0) (by decide +kernel) rfl, ?_⟩
  refine List.forall_mem_cons.2 ⟨s_getfield (C := q_n8) (T := q_T8) (N := 39) (idx := 81) (ref := "ProofDeskModel") (by decide +kernel) rfl q_in8 (by decide) (x_up mw_666) rfl, ?_⟩
  refine List.forall_mem_cons.2 ⟨s_iload (by decide +kernel), ?_⟩
  refine List.forall_mem_cons.2 ⟨s_iconst (k := 0) (by decide +kernel) (by decide +kernel), ?_⟩
  refine List.forall_mem_cons.2 ⟨s_iast (by decide +kernel) rfl, ?_⟩
  refine List.forall_mem_cons.2 ⟨s_iinc (k := -1) (by decide +kernel) (by decide +kernel) (by decide), ?_⟩
  refine List.forall_mem_cons.2 ⟨s_goto (off := -32) (by decide +kernel) (by decide), ?_⟩
  refine List.forall_mem_cons.2 ⟨s_iload (by decide +kernel), ?_⟩
  refine List.forall_mem_cons.2 ⟨s_iflt (off := 7) (by decide +kernel) (by decide), ?_⟩
  refine List.forall_mem_cons.2 ⟨s_iconst (k := 1) (by decide +kernel) (by decide +kernel), ?_⟩
  refine List.forall_mem_cons.2 ⟨s_goto (off := 4) (by decide +kernel) (by decide), ?_⟩
  refine List.forall_mem_cons.2 ⟨s_iconst (k := 0) (by decide +kernel) (by decide +kernel), ?_⟩
  refine List.forall_mem_cons.2 ⟨s_istore_n (k := 3) (by decide +kernel) rfl (by decide), ?_⟩
  refine List.forall_mem_cons.2 ⟨s_iload_n (k := 3) (by decide +kernel) rfl, ?_⟩
  refine List.forall_mem_cons.2 ⟨s_ifeq (off := 14) (by decide +kernel) (by decide), ?_⟩
  refine List.forall_mem_cons.2 ⟨s_aload_n (k := 0) (by decide +kernel) rfl, ?_⟩
  refine List.forall_mem_cons.2 ⟨s_getfield (C := q_n8) (T := q_T8) (N := 39) (idx := 81) (ref := "ProofDeskModel") (by decide +kernel) rfl q_in8 (by decide) (x_up mw_666) rfl, ?_⟩
  refine List.forall_mem_cons.2 ⟨s_iload (by decide +kernel), ?_⟩
  refine List.forall_mem_cons.2 ⟨s_dup2 (by decide +kernel), ?_⟩
  refine List.forall_mem_cons.2 ⟨s_iald (by decide +kernel) rfl, ?_⟩
  refine List.forall_mem_cons.2 ⟨s_iconst (k := 1) (by decide +kernel) (by decide +kernel), ?_⟩
  refine List.forall_mem_cons.2 ⟨s_iadd (by decide +kernel), ?_⟩
  refine List.forall_mem_cons.2 ⟨s_iast (by decide +kernel) rfl, ?_⟩
  refine List.forall_mem_cons.2 ⟨s_goto (off := -111) (by decide +kernel) (by decide), ?_⟩
  refine List.forall_mem_cons.2 ⟨s_iconst (k := 0) (by decide +kernel) (by decide +kernel), ?_⟩
  refine List.forall_mem_cons.2 ⟨s_ireturn (ty := .boolean) (by decide +kernel) rfl, ?_⟩
  exact fun _ h => absurd h List.not_mem_nil
def q_k130 : List (Nat × xO) := q_k130_0 ++ q_k130_1 ++ q_k130_2
theorem q_s130 (l : Launch) (s0 : State) : ∀ q ∈ q_k130, x_Sim (x_K s0) none l q_y130 q_c130 6 (some .boolean) q_w130 q.1 q.2 := by
  intro q hq
  simp only [q_k130, List.mem_append] at hq
  rcases hq with (h0 | h1) | h2
  · exact q_s130_0 l s0 q h0
  · exact q_s130_1 l s0 q h1
  · exact q_s130_2 l s0 q h2
/-- ProofDeskModel.fitted(II)I -/
def q_k131_0 : List (Nat × xO) := [(0, x_st (x_push 1 (.int (0)))), (1, x_sti 2 3), (2, x_ldi 3 3), (3, x_st (x_push 5 (.int (52)))), (5, x_st (x_icge 21 8)), (8, x_lda 9 0), (9, x_gf 12 8 30), (12, x_ldi 13 3), (13, x_st (x_push 14 (.int (-1)))), (14, x_ast 15 0 (fun x => x)), (15, x_iinc 18 3 (1)), (18, x_st (x_goto 2)), (21, x_st (x_push 22 (.int (0)))), (22, x_sti 23 3), (23, x_ldi 24 3), (24, x_ldi 25 2), (25, x_st (x_icge 93 28)), (28, x_lda 29 0), (29, x_gf 32 8 35), (32, x_ldi 33 3), (33, x_ald 34 0), (34, x_sti 36 4), (36, x_lda 37 0), (37, x_gf 40 8 8), (40, x_st (x_push 42 (.int (7)))), (42, x_ldi 43 1), (43, x_st (x_bin 44 (fun a b => a * b))), (44, x_ldi 45 3), (45, x_st (x_bin 46 (fun a b => a + b))), (46, x_ald 47 1), (47, x_lda 48 0), (48, x_gf 51 8 27), (51, x_ldi 53 4), (53, x_ald 54 1), (54, x_st (x_icne 85 57)), (57, x_lda 58 0), (58, x_lda 59 0), (59, x_gf 62 8 4), (62, x_st (x_push 64 (.int (7)))), (64, x_ldi 65 1)]
set_option maxRecDepth 100000 in
set_option maxHeartbeats 4000000 in
theorem q_s131_0 (l : Launch) (s0 : State) : ∀ q ∈ q_k131_0, x_Sim (x_K s0) none l q_y131 q_c131 5 (some .int) q_w131 q.1 q.2 := by
  unfold q_k131_0
  refine List.forall_mem_cons.2 ⟨s_iconst (k := 0) (by decide +kernel) (by decide +kernel), ?_⟩
  refine List.forall_mem_cons.2 ⟨s_istore_n (k := 3) (by decide +kernel) rfl (by decide), ?_⟩
  refine List.forall_mem_cons.2 ⟨s_iload_n (k := 3) (by decide +kernel) rfl, ?_⟩
  refine List.forall_mem_cons.2 ⟨s_bipush (k := 52) (by decide +kernel) (by decide +kernel), ?_⟩
  refine List.forall_mem_cons.2 ⟨s_icmp_ge (off := 16) (by decide +kernel) (by decide), ?_⟩
  refine List.forall_mem_cons.2 ⟨s_aload_n (k := 0) (by decide +kernel) rfl, ?_⟩
  refine List.forall_mem_cons.2 ⟨s_getfield (C := q_n8) (T := q_T8) (N := 39) (idx := 66) (ref := "ProofDeskModel") (by decide +kernel) rfl q_in8 (by decide) (x_up mw_661) rfl, ?_⟩
  refine List.forall_mem_cons.2 ⟨s_iload_n (k := 3) (by decide +kernel) rfl, ?_⟩
  refine List.forall_mem_cons.2 ⟨s_iconst (k := -1) (by decide +kernel) (by decide +kernel), ?_⟩
  refine List.forall_mem_cons.2 ⟨s_iast (by decide +kernel) rfl, ?_⟩
  refine List.forall_mem_cons.2 ⟨s_iinc (k := 1) (by decide +kernel) (by decide +kernel) (by decide), ?_⟩
  refine List.forall_mem_cons.2 ⟨s_goto (off := -16) (by decide +kernel) (by decide), ?_⟩
  refine List.forall_mem_cons.2 ⟨s_iconst (k := 0) (by decide +kernel) (by decide +kernel), ?_⟩
  refine List.forall_mem_cons.2 ⟨s_istore_n (k := 3) (by decide +kernel) rfl (by decide), ?_⟩
  refine List.forall_mem_cons.2 ⟨s_iload_n (k := 3) (by decide +kernel) rfl, ?_⟩
  refine List.forall_mem_cons.2 ⟨s_iload_n (k := 2) (by decide +kernel) rfl, ?_⟩
  refine List.forall_mem_cons.2 ⟨s_icmp_ge (off := 68) (by decide +kernel) (by decide), ?_⟩
  refine List.forall_mem_cons.2 ⟨s_aload_n (k := 0) (by decide +kernel) rfl, ?_⟩
  refine List.forall_mem_cons.2 ⟨s_getfield (C := q_n8) (T := q_T8) (N := 39) (idx := 81) (ref := "ProofDeskModel") (by decide +kernel) rfl q_in8 (by decide) (x_up mw_666) rfl, ?_⟩
  refine List.forall_mem_cons.2 ⟨s_iload_n (k := 3) (by decide +kernel) rfl, ?_⟩
  refine List.forall_mem_cons.2 ⟨s_iald (by decide +kernel) rfl, ?_⟩
  refine List.forall_mem_cons.2 ⟨s_istore (by decide +kernel) (by decide), ?_⟩
  refine List.forall_mem_cons.2 ⟨s_aload_n (k := 0) (by decide +kernel) rfl, ?_⟩
  refine List.forall_mem_cons.2 ⟨s_getfield (C := q_n8) (T := q_T8) (N := 39) (idx := 25) (ref := "ProofDeskModel") (by decide +kernel) rfl q_in8 (by decide) (x_up mw_648) rfl, ?_⟩
  refine List.forall_mem_cons.2 ⟨s_bipush (k := 7) (by decide +kernel) (by decide +kernel), ?_⟩
  refine List.forall_mem_cons.2 ⟨s_iload_n (k := 1) (by decide +kernel) rfl, ?_⟩
  refine List.forall_mem_cons.2 ⟨s_imul (by decide +kernel), ?_⟩
  refine List.forall_mem_cons.2 ⟨s_iload_n (k := 3) (by decide +kernel) rfl, ?_⟩
  refine List.forall_mem_cons.2 ⟨s_iadd (by decide +kernel), ?_⟩
  refine List.forall_mem_cons.2 ⟨s_zald (by decide +kernel) rfl, ?_⟩
  refine List.forall_mem_cons.2 ⟨s_aload_n (k := 0) (by decide +kernel) rfl, ?_⟩
  refine List.forall_mem_cons.2 ⟨s_getfield (C := q_n8) (T := q_T8) (N := 39) (idx := 60) (ref := "ProofDeskModel") (by decide +kernel) rfl q_in8 (by decide) (x_up mw_659) rfl, ?_⟩
  refine List.forall_mem_cons.2 ⟨s_iload (by decide +kernel), ?_⟩
  refine List.forall_mem_cons.2 ⟨s_zald (by decide +kernel) rfl, ?_⟩
  refine List.forall_mem_cons.2 ⟨s_icmp_ne (off := 31) (by decide +kernel) (by decide), ?_⟩
  refine List.forall_mem_cons.2 ⟨s_aload_n (k := 0) (by decide +kernel) rfl, ?_⟩
  refine List.forall_mem_cons.2 ⟨s_aload_n (k := 0) (by decide +kernel) rfl, ?_⟩
  refine List.forall_mem_cons.2 ⟨s_getfield (C := q_n8) (T := q_T8) (N := 39) (idx := 13) (ref := "ProofDeskModel") (by decide +kernel) rfl q_in8 (by decide) (x_up mw_644) rfl, ?_⟩
  refine List.forall_mem_cons.2 ⟨s_bipush (k := 7) (by decide +kernel) (by decide +kernel), ?_⟩
  refine List.forall_mem_cons.2 ⟨s_iload_n (k := 1) (by decide +kernel) rfl, ?_⟩
  exact fun _ h => absurd h List.not_mem_nil
def q_k131_1 : List (Nat × xO) := [(65, x_st (x_bin 66 (fun a b => a * b))), (66, x_ldi 67 3), (67, x_st (x_bin 68 (fun a b => a + b))), (68, x_ald 69 0), (69, x_st (x_push 71 (.int (88)))), (71, x_lda 72 0), (72, x_gf 75 8 26), (75, x_ldi 77 4), (77, x_ald 78 0), (78, x_st (x_bin 79 (fun a b => a + b))), (79, x_cv 82 128 3 8), (82, x_st (x_ifne 87 85)), (85, x_ldi 86 3), (86, x_ri (.int)), (87, x_iinc 90 3 (1)), (90, x_st (x_goto 23)), (93, x_ldi 94 2), (94, x_ri (.int))]
set_option maxRecDepth 100000 in
set_option maxHeartbeats 4000000 in
theorem q_s131_1 (l : Launch) (s0 : State) : ∀ q ∈ q_k131_1, x_Sim (x_K s0) none l q_y131 q_c131 5 (some .int) q_w131 q.1 q.2 := by
  unfold q_k131_1
  refine List.forall_mem_cons.2 ⟨s_imul (by decide +kernel), ?_⟩
  refine List.forall_mem_cons.2 ⟨s_iload_n (k := 3) (by decide +kernel) rfl, ?_⟩
  refine List.forall_mem_cons.2 ⟨s_iadd (by decide +kernel), ?_⟩
  refine List.forall_mem_cons.2 ⟨s_iald (by decide +kernel) rfl, ?_⟩
  refine List.forall_mem_cons.2 ⟨s_bipush (k := 88) (by decide +kernel) (by decide +kernel), ?_⟩
  refine List.forall_mem_cons.2 ⟨s_aload_n (k := 0) (by decide +kernel) rfl, ?_⟩
  refine List.forall_mem_cons.2 ⟨s_getfield (C := q_n8) (T := q_T8) (N := 39) (idx := 57) (ref := "ProofDeskModel") (by decide +kernel) rfl q_in8 (by decide) (x_up mw_658) rfl, ?_⟩
  refine List.forall_mem_cons.2 ⟨s_iload (by decide +kernel), ?_⟩
  refine List.forall_mem_cons.2 ⟨s_iald (by decide +kernel) rfl, ?_⟩
  refine List.forall_mem_cons.2 ⟨s_iadd (by decide +kernel), ?_⟩
  refine List.forall_mem_cons.2 ⟨s_invokevirtual (idx := 245) (M := 128) (k := 2) (ci := 8) (C := q_n8) (T := q_T8) (N := 39) (ym := q_y128) (wm := q_w128) (by decide +kernel) rfl rfl rfl (x_gdV mw_819 mw_820 mw_821 mw_675 mw_818) rfl (by decide +kernel) (by decide), ?_⟩
  refine List.forall_mem_cons.2 ⟨s_ifne (off := 5) (by decide +kernel) (by decide), ?_⟩
  refine List.forall_mem_cons.2 ⟨s_iload_n (k := 3) (by decide +kernel) rfl, ?_⟩
  refine List.forall_mem_cons.2 ⟨s_ireturn (ty := .int) (by decide +kernel) rfl, ?_⟩
  refine List.forall_mem_cons.2 ⟨s_iinc (k := 1) (by decide +kernel) (by decide +kernel) (by decide), ?_⟩
  refine List.forall_mem_cons.2 ⟨s_goto (off := -67) (by decide +kernel) (by decide), ?_⟩
  refine List.forall_mem_cons.2 ⟨s_iload_n (k := 2) (by decide +kernel) rfl, ?_⟩
  refine List.forall_mem_cons.2 ⟨s_ireturn (ty := .int) (by decide +kernel) rfl, ?_⟩
  exact fun _ h => absurd h List.not_mem_nil
def q_k131 : List (Nat × xO) := q_k131_0 ++ q_k131_1
theorem q_s131 (l : Launch) (s0 : State) : ∀ q ∈ q_k131, x_Sim (x_K s0) none l q_y131 q_c131 5 (some .int) q_w131 q.1 q.2 := by
  intro q hq
  simp only [q_k131, List.mem_append] at hq
  rcases hq with h0 | h1
  · exact q_s131_0 l s0 q h0
  · exact q_s131_1 l s0 q h1
/-- ProofDeskModel.fault()I -/
def q_k132_0 : List (Nat × xO) := [(0, x_lda 1 0), (1, x_st (x_push 2 (.int (0)))), (2, x_pf 5 8 0 (.int)), (5, x_lda 6 0), (6, x_gf 9 8 1), (9, x_ri (.int))]
set_option maxRecDepth 100000 in
set_option maxHeartbeats 4000000 in
theorem q_s132_0 (l : Launch) (s0 : State) : ∀ q ∈ q_k132_0, x_Sim (x_K s0) none l q_y132 q_c132 1 (some .int) q_w132 q.1 q.2 := by
  unfold q_k132_0
  refine List.forall_mem_cons.2 ⟨s_aload_n (k := 0) (by decide +kernel) rfl, ?_⟩
  refine List.forall_mem_cons.2 ⟨s_iconst (k := 0) (by decide +kernel) (by decide +kernel), ?_⟩
  refine List.forall_mem_cons.2 ⟨s_putfield (C := q_n8) (T := q_T8) (N := 39) (idx := 84) (ref := "ProofDeskModel") q_t8 (by decide +kernel) rfl q_in8 q_ty8 q_nm8 (by decide) (x_up mw_667) rfl rfl (by decide +kernel), ?_⟩
  refine List.forall_mem_cons.2 ⟨s_aload_n (k := 0) (by decide +kernel) rfl, ?_⟩
  refine List.forall_mem_cons.2 ⟨s_getfield (C := q_n8) (T := q_T8) (N := 39) (idx := 88) (ref := "ProofDeskModel") (by decide +kernel) rfl q_in8 (by decide) (x_up mw_668) rfl, ?_⟩
  refine List.forall_mem_cons.2 ⟨s_ireturn (ty := .int) (by decide +kernel) rfl, ?_⟩
  exact fun _ h => absurd h List.not_mem_nil
def q_k132 : List (Nat × xO) := q_k132_0
theorem q_s132 (l : Launch) (s0 : State) : ∀ q ∈ q_k132, x_Sim (x_K s0) none l q_y132 q_c132 1 (some .int) q_w132 q.1 q.2 := q_s132_0 l s0
/-- ProofDeskModel.clauses()I -/
def q_k133_0 : List (Nat × xO) := [(0, x_lda 1 0), (1, x_st (x_push 2 (.int (0)))), (2, x_pf 5 8 0 (.int)), (5, x_lda 6 0), (6, x_gf 9 8 2), (9, x_ri (.int))]
set_option maxRecDepth 100000 in
set_option maxHeartbeats 4000000 in
theorem q_s133_0 (l : Launch) (s0 : State) : ∀ q ∈ q_k133_0, x_Sim (x_K s0) none l q_y133 q_c133 1 (some .int) q_w133 q.1 q.2 := by
  unfold q_k133_0
  refine List.forall_mem_cons.2 ⟨s_aload_n (k := 0) (by decide +kernel) rfl, ?_⟩
  refine List.forall_mem_cons.2 ⟨s_iconst (k := 0) (by decide +kernel) (by decide +kernel), ?_⟩
  refine List.forall_mem_cons.2 ⟨s_putfield (C := q_n8) (T := q_T8) (N := 39) (idx := 84) (ref := "ProofDeskModel") q_t8 (by decide +kernel) rfl q_in8 q_ty8 q_nm8 (by decide) (x_up mw_667) rfl rfl (by decide +kernel), ?_⟩
  refine List.forall_mem_cons.2 ⟨s_aload_n (k := 0) (by decide +kernel) rfl, ?_⟩
  refine List.forall_mem_cons.2 ⟨s_getfield (C := q_n8) (T := q_T8) (N := 39) (idx := 150) (ref := "ProofDeskModel") (by decide +kernel) rfl q_in8 (by decide) (x_up mw_715) rfl, ?_⟩
  refine List.forall_mem_cons.2 ⟨s_ireturn (ty := .int) (by decide +kernel) rfl, ?_⟩
  exact fun _ h => absurd h List.not_mem_nil
def q_k133 : List (Nat × xO) := q_k133_0
theorem q_s133 (l : Launch) (s0 : State) : ∀ q ∈ q_k133, x_Sim (x_K s0) none l q_y133 q_c133 1 (some .int) q_w133 q.1 q.2 := q_s133_0 l s0
/-- ProofDeskModel.isClause(I)Z -/
def q_k134_0 : List (Nat × xO) := [(0, x_ldi 1 1), (1, x_st (x_iflt 16 4)), (4, x_ldi 5 1), (5, x_lda 6 0), (6, x_gf 9 8 2), (9, x_st (x_icge 16 12)), (12, x_st (x_push 13 (.int (1)))), (13, x_st (x_goto 17)), (16, x_st (x_push 17 (.int (0)))), (17, x_ri (.boolean))]
set_option maxRecDepth 100000 in
set_option maxHeartbeats 4000000 in
theorem q_s134_0 (l : Launch) (s0 : State) : ∀ q ∈ q_k134_0, x_Sim (x_K s0) none l q_y134 q_c134 2 (some .boolean) q_w134 q.1 q.2 := by
  unfold q_k134_0
  refine List.forall_mem_cons.2 ⟨s_iload_n (k := 1) (by decide +kernel) rfl, ?_⟩
  refine List.forall_mem_cons.2 ⟨s_iflt (off := 15) (by decide +kernel) (by decide), ?_⟩
  refine List.forall_mem_cons.2 ⟨s_iload_n (k := 1) (by decide +kernel) rfl, ?_⟩
  refine List.forall_mem_cons.2 ⟨s_aload_n (k := 0) (by decide +kernel) rfl, ?_⟩
  refine List.forall_mem_cons.2 ⟨s_getfield (C := q_n8) (T := q_T8) (N := 39) (idx := 150) (ref := "ProofDeskModel") (by decide +kernel) rfl q_in8 (by decide) (x_up mw_715) rfl, ?_⟩
  refine List.forall_mem_cons.2 ⟨s_icmp_ge (off := 7) (by decide +kernel) (by decide), ?_⟩
  refine List.forall_mem_cons.2 ⟨s_iconst (k := 1) (by decide +kernel) (by decide +kernel), ?_⟩
  refine List.forall_mem_cons.2 ⟨s_goto (off := 4) (by decide +kernel) (by decide), ?_⟩
  refine List.forall_mem_cons.2 ⟨s_iconst (k := 0) (by decide +kernel) (by decide +kernel), ?_⟩
  refine List.forall_mem_cons.2 ⟨s_ireturn (ty := .boolean) (by decide +kernel) rfl, ?_⟩
  exact fun _ h => absurd h List.not_mem_nil
def q_k134 : List (Nat × xO) := q_k134_0
theorem q_s134 (l : Launch) (s0 : State) : ∀ q ∈ q_k134, x_Sim (x_K s0) none l q_y134 q_c134 2 (some .boolean) q_w134 q.1 q.2 := q_s134_0 l s0
/-- ProofDeskModel.literals(I)I -/
def q_k135_0 : List (Nat × xO) := [(0, x_lda 1 0), (1, x_st (x_push 2 (.int (0)))), (2, x_pf 5 8 0 (.int)), (5, x_lda 6 0), (6, x_ldi 7 1), (7, x_cv 10 134 2 8), (10, x_st (x_ifeq 22 13)), (13, x_lda 14 0), (14, x_gf 17 8 5), (17, x_ldi 18 1), (18, x_ald 19 0), (19, x_st (x_goto 23)), (22, x_st (x_push 23 (.int (-1)))), (23, x_ri (.int))]
set_option maxRecDepth 100000 in
set_option maxHeartbeats 4000000 in
theorem q_s135_0 (l : Launch) (s0 : State) : ∀ q ∈ q_k135_0, x_Sim (x_K s0) none l q_y135 q_c135 2 (some .int) q_w135 q.1 q.2 := by
  unfold q_k135_0
  refine List.forall_mem_cons.2 ⟨s_aload_n (k := 0) (by decide +kernel) rfl, ?_⟩
  refine List.forall_mem_cons.2 ⟨s_iconst (k := 0) (by decide +kernel) (by decide +kernel), ?_⟩
  refine List.forall_mem_cons.2 ⟨s_putfield (C := q_n8) (T := q_T8) (N := 39) (idx := 84) (ref := "ProofDeskModel") q_t8 (by decide +kernel) rfl q_in8 q_ty8 q_nm8 (by decide) (x_up mw_667) rfl rfl (by decide +kernel), ?_⟩
  refine List.forall_mem_cons.2 ⟨s_aload_n (k := 0) (by decide +kernel) rfl, ?_⟩
  refine List.forall_mem_cons.2 ⟨s_iload_n (k := 1) (by decide +kernel) rfl, ?_⟩
  refine List.forall_mem_cons.2 ⟨s_invokevirtual (idx := 248) (M := 134) (k := 1) (ci := 8) (C := q_n8) (T := q_T8) (N := 39) (ym := q_y134) (wm := q_w134) (by decide +kernel) rfl rfl rfl (x_gdV mw_823 mw_824 mw_825 mw_675 mw_822) rfl (by decide +kernel) (by decide), ?_⟩
  refine List.forall_mem_cons.2 ⟨s_ifeq (off := 12) (by decide +kernel) (by decide), ?_⟩
  refine List.forall_mem_cons.2 ⟨s_aload_n (k := 0) (by decide +kernel) rfl, ?_⟩
  refine List.forall_mem_cons.2 ⟨s_getfield (C := q_n8) (T := q_T8) (N := 39) (idx := 16) (ref := "ProofDeskModel") (by decide +kernel) rfl q_in8 (by decide) (x_up mw_645) rfl, ?_⟩
  refine List.forall_mem_cons.2 ⟨s_iload_n (k := 1) (by decide +kernel) rfl, ?_⟩
  refine List.forall_mem_cons.2 ⟨s_iald (by decide +kernel) rfl, ?_⟩
  refine List.forall_mem_cons.2 ⟨s_goto (off := 4) (by decide +kernel) (by decide), ?_⟩
  refine List.forall_mem_cons.2 ⟨s_iconst (k := -1) (by decide +kernel) (by decide +kernel), ?_⟩
  refine List.forall_mem_cons.2 ⟨s_ireturn (ty := .int) (by decide +kernel) rfl, ?_⟩
  exact fun _ h => absurd h List.not_mem_nil
def q_k135 : List (Nat × xO) := q_k135_0
theorem q_s135 (l : Launch) (s0 : State) : ∀ q ∈ q_k135, x_Sim (x_K s0) none l q_y135 q_c135 2 (some .int) q_w135 q.1 q.2 := q_s135_0 l s0
/-- ProofDeskModel.size(I)I -/
def q_k136_0 : List (Nat × xO) := [(0, x_lda 1 0), (1, x_st (x_push 2 (.int (0)))), (2, x_pf 5 8 0 (.int)), (5, x_lda 6 0), (6, x_ldi 7 1), (7, x_cv 10 134 2 8), (10, x_st (x_ifeq 32 13)), (13, x_lda 14 0), (14, x_gf 17 8 4), (17, x_st (x_push 19 (.int (7)))), (19, x_ldi 20 1), (20, x_st (x_bin 21 (fun a b => a * b))), (21, x_lda 22 0), (22, x_gf 25 8 5), (25, x_ldi 26 1), (26, x_ald 27 0), (27, x_st (x_bin 28 (fun a b => a + b))), (28, x_ald 29 0), (29, x_st (x_goto 33)), (32, x_st (x_push 33 (.int (-1)))), (33, x_ri (.int))]
set_option maxRecDepth 100000 in
set_option maxHeartbeats 4000000 in
theorem q_s136_0 (l : Launch) (s0 : State) : ∀ q ∈ q_k136_0, x_Sim (x_K s0) none l q_y136 q_c136 2 (some .int) q_w136 q.1 q.2 := by
  unfold q_k136_0
  refine List.forall_mem_cons.2 ⟨s_aload_n (k := 0) (by decide +kernel) rfl, ?_⟩
  refine List.forall_mem_cons.2 ⟨s_iconst (k := 0) (by decide +kernel) (by decide +kernel), ?_⟩
  refine List.forall_mem_cons.2 ⟨s_putfield (C := q_n8) (T := q_T8) (N := 39) (idx := 84) (ref := "ProofDeskModel") q_t8 (by decide +kernel) rfl q_in8 q_ty8 q_nm8 (by decide) (x_up mw_667) rfl rfl (by decide +kernel), ?_⟩
  refine List.forall_mem_cons.2 ⟨s_aload_n (k := 0) (by decide +kernel) rfl, ?_⟩
  refine List.forall_mem_cons.2 ⟨s_iload_n (k := 1) (by decide +kernel) rfl, ?_⟩
  refine List.forall_mem_cons.2 ⟨s_invokevirtual (idx := 248) (M := 134) (k := 1) (ci := 8) (C := q_n8) (T := q_T8) (N := 39) (ym := q_y134) (wm := q_w134) (by decide +kernel) rfl rfl rfl (x_gdV mw_823 mw_824 mw_825 mw_675 mw_822) rfl (by decide +kernel) (by decide), ?_⟩
  refine List.forall_mem_cons.2 ⟨s_ifeq (off := 22) (by decide +kernel) (by decide), ?_⟩
  refine List.forall_mem_cons.2 ⟨s_aload_n (k := 0) (by decide +kernel) rfl, ?_⟩
  refine List.forall_mem_cons.2 ⟨s_getfield (C := q_n8) (T := q_T8) (N := 39) (idx := 13) (ref := "ProofDeskModel") (by decide +kernel) rfl q_in8 (by decide) (x_up mw_644) rfl, ?_⟩
  refine List.forall_mem_cons.2 ⟨s_bipush (k := 7) (by decide +kernel) (by decide +kernel), ?_⟩
  refine List.forall_mem_cons.2 ⟨s_iload_n (k := 1) (by decide +kernel) rfl, ?_⟩
  refine List.forall_mem_cons.2 ⟨s_imul (by decide +kernel), ?_⟩
  refine List.forall_mem_cons.2 ⟨s_aload_n (k := 0) (by decide +kernel) rfl, ?_⟩
  refine List.forall_mem_cons.2 ⟨s_getfield (C := q_n8) (T := q_T8) (N := 39) (idx := 16) (ref := "ProofDeskModel") (by decide +kernel) rfl q_in8 (by decide) (x_up mw_645) rfl, ?_⟩
  refine List.forall_mem_cons.2 ⟨s_iload_n (k := 1) (by decide +kernel) rfl, ?_⟩
  refine List.forall_mem_cons.2 ⟨s_iald (by decide +kernel) rfl, ?_⟩
  refine List.forall_mem_cons.2 ⟨s_iadd (by decide +kernel), ?_⟩
  refine List.forall_mem_cons.2 ⟨s_iald (by decide +kernel) rfl, ?_⟩
  refine List.forall_mem_cons.2 ⟨s_goto (off := 4) (by decide +kernel) (by decide), ?_⟩
  refine List.forall_mem_cons.2 ⟨s_iconst (k := -1) (by decide +kernel) (by decide +kernel), ?_⟩
  refine List.forall_mem_cons.2 ⟨s_ireturn (ty := .int) (by decide +kernel) rfl, ?_⟩
  exact fun _ h => absurd h List.not_mem_nil
def q_k136 : List (Nat × xO) := q_k136_0
theorem q_s136 (l : Launch) (s0 : State) : ∀ q ∈ q_k136, x_Sim (x_K s0) none l q_y136 q_c136 2 (some .int) q_w136 q.1 q.2 := q_s136_0 l s0
/-- ProofDeskModel.tell(I)V -/
def q_k137_0 : List (Nat × xO) := [(0, x_lda 1 0), (1, x_lda 2 0), (2, x_gf 5 8 36), (5, x_lda 6 0), (6, x_gf 9 8 37), (9, x_st (x_icne 16 12)), (12, x_ldi 13 1), (13, x_st (x_goto 20)), (16, x_lda 17 0), (17, x_gf 20 8 38), (20, x_pf 23 8 38 (.int)), (23, x_lda 24 0), (24, x_st (x_dup 25)), (25, x_gf 28 8 36), (28, x_st (x_push 29 (.int (1)))), (29, x_st (x_bin 30 (fun a b => a + b))), (30, x_pf 33 8 36 (.int)), (33, x_rv)]
set_option maxRecDepth 100000 in
set_option maxHeartbeats 4000000 in
theorem q_s137_0 (l : Launch) (s0 : State) : ∀ q ∈ q_k137_0, x_Sim (x_K s0) none l q_y137 q_c137 2 none q_w137 q.1 q.2 := by
  unfold q_k137_0
  refine List.forall_mem_cons.2 ⟨s_aload_n (k := 0) (by decide +kernel) rfl, ?_⟩
  refine List.forall_mem_cons.2 ⟨s_aload_n (k := 0) (by decide +kernel) rfl, ?_⟩
  refine List.forall_mem_cons.2 ⟨s_getfield (C := q_n8) (T := q_T8) (N := 39) (idx := 251) (ref := "ProofDeskModel") (by decide +kernel) rfl q_in8 (by decide) (x_up mw_826) rfl, ?_⟩
  refine List.forall_mem_cons.2 ⟨s_aload_n (k := 0) (by decide +kernel) rfl, ?_⟩
  refine List.forall_mem_cons.2 ⟨s_getfield (C := q_n8) (T := q_T8) (N := 39) (idx := 254) (ref := "ProofDeskModel") (by decide +kernel) rfl q_in8 (by decide) (x_up mw_827) rfl, ?_⟩
  refine List.forall_mem_cons.2 ⟨s_icmp_ne (off := 7) (by decide +kernel) (by decide), ?_⟩
  refine List.forall_mem_cons.2 ⟨s_iload_n (k := 1) (by decide +kernel) rfl, ?_⟩
  refine List.forall_mem_cons.2 ⟨s_goto (off := 7) (by decide +kernel) (by decide), ?_⟩
  refine List.forall_mem_cons.2 ⟨s_aload_n (k := 0) (by decide +kernel) rfl, ?_⟩
  refine List.forall_mem_cons.2 ⟨s_getfield (C := q_n8) (T := q_T8) (N := 39) (idx := 257) (ref := "ProofDeskModel") (by decide +kernel) rfl q_in8 (by decide) (x_up mw_828) rfl, ?_⟩
  refine List.forall_mem_cons.2 ⟨s_putfield (C := q_n8) (T := q_T8) (N := 39) (idx := 257) (ref := "ProofDeskModel") q_t8 (by decide +kernel) rfl q_in8 q_ty8 q_nm8 (by decide) (x_up mw_828) rfl rfl (by decide +kernel), ?_⟩
  refine List.forall_mem_cons.2 ⟨s_aload_n (k := 0) (by decide +kernel) rfl, ?_⟩
  refine List.forall_mem_cons.2 ⟨s_dup (by decide +kernel), ?_⟩
  refine List.forall_mem_cons.2 ⟨s_getfield (C := q_n8) (T := q_T8) (N := 39) (idx := 251) (ref := "ProofDeskModel") (by decide +kernel) rfl q_in8 (by decide) (x_up mw_826) rfl, ?_⟩
  refine List.forall_mem_cons.2 ⟨s_iconst (k := 1) (by decide +kernel) (by decide +kernel), ?_⟩
  refine List.forall_mem_cons.2 ⟨s_iadd (by decide +kernel), ?_⟩
  refine List.forall_mem_cons.2 ⟨s_putfield (C := q_n8) (T := q_T8) (N := 39) (idx := 251) (ref := "ProofDeskModel") q_t8 (by decide +kernel) rfl q_in8 q_ty8 q_nm8 (by decide) (x_up mw_826) rfl rfl (by decide +kernel), ?_⟩
  refine List.forall_mem_cons.2 ⟨s_return (by decide +kernel) rfl, ?_⟩
  exact fun _ h => absurd h List.not_mem_nil
def q_k137 : List (Nat × xO) := q_k137_0
theorem q_s137 (l : Launch) (s0 : State) : ∀ q ∈ q_k137, x_Sim (x_K s0) none l q_y137 q_c137 2 none q_w137 q.1 q.2 := q_s137_0 l s0
/-- ProofDeskModel.tellTerm(II)V -/
def q_k138_0 : List (Nat × xO) := [(0, x_st (x_push 1 (.int (0)))), (1, x_sti 2 3), (2, x_ldi 3 1), (3, x_sti 5 4), (5, x_ldi 7 4), (7, x_ldi 8 2), (8, x_st (x_icge 169 11)), (11, x_lda 12 0), (12, x_gf 15 8 3), (15, x_ldi 17 4), (17, x_ald 18 0), (18, x_sti 20 5), (20, x_lda 21 0), (21, x_ldi 23 5), (23, x_st (x_push 25 (.int (99)))), (25, x_st (x_icge 36 28)), (28, x_st (x_push 30 (.int (65)))), (30, x_ldi 32 5), (32, x_st (x_bin 33 (fun a b => a + b))), (33, x_st (x_goto 46)), (36, x_st (x_push 38 (.int (97)))), (38, x_ldi 40 5), (40, x_st (x_push 42 (.int (100)))), (42, x_st (x_bin 43 (fun a b => a - b))), (43, x_st (x_push 44 (.int (4)))), (44, x_st (x_div 45 (fun a b => a / b))), (45, x_st (x_bin 46 (fun a b => a + b))), (46, x_cv 49 137 2 8), (49, x_ldi 51 5), (51, x_cl_ 54 101 1), (54, x_st (x_ifle 80 57)), (57, x_lda 58 0), (58, x_st (x_push 60 (.int (40)))), (60, x_cv 63 137 2 8), (63, x_lda 64 0), (64, x_gf 67 8 34), (67, x_ldi 68 3), (68, x_ldi 70 5), (70, x_cl_ 73 101 1), (73, x_ast 74 0 (fun x => x))]
set_option maxRecDepth 100000 in
set_option maxHeartbeats 4000000 in
theorem q_s138_0 (l : Launch) (s0 : State) : ∀ q ∈ q_k138_0, x_Sim (x_K s0) none l q_y138 q_c138 7 none q_w138 q.1 q.2 := by
  unfold q_k138_0
  refine List.forall_mem_cons.2 ⟨s_iconst (k := 0) (by decide +kernel) (by decide +kernel), ?_⟩
  refine List.forall_mem_cons.2 ⟨s_istore_n (k := 3) (by decide +kernel) rfl (by decide), ?_⟩
  refine List.forall_mem_cons.2 ⟨s_iload_n (k := 1) (by decide +kernel) rfl, ?_⟩
  refine List.forall_mem_cons.2 ⟨s_istore (by decide +kernel) (by decide), ?_⟩
  refine List.forall_mem_cons.2 ⟨s_iload (by decide +kernel), ?_⟩
  refine List.forall_mem_cons.2 ⟨s_iload_n (k := 2) (by decide +kernel) rfl, ?_⟩
  refine List.forall_mem_cons.2 ⟨s_icmp_ge (off := 161) (by decide +kernel) (by decide), ?_⟩
  refine List.forall_mem_cons.2 ⟨s_aload_n (k := 0) (by decide +kernel) rfl, ?_⟩
  refine List.forall_mem_cons.2 ⟨s_getfield (C := q_n8) (T := q_T8) (N := 39) (idx := 7) (ref := "ProofDeskModel") (by decide +kernel) rfl q_in8 (by decide) (x_up mw_643) rfl, ?_⟩
  refine List.forall_mem_cons.2 ⟨s_iload (by decide +kernel), ?_⟩
  refine List.forall_mem_cons.2 ⟨s_iald (by decide +kernel) rfl, ?_⟩
  refine List.forall_mem_cons.2 ⟨s_istore (by decide +kernel) (by decide), ?_⟩
  refine List.forall_mem_cons.2 ⟨s_aload_n (k := 0) (by decide +kernel) rfl, ?_⟩
  refine List.forall_mem_cons.2 ⟨s_iload (by decide +kernel), ?_⟩
  refine List.forall_mem_cons.2 ⟨s_bipush (k := 99) (by decide +kernel) (by decide +kernel), ?_⟩
  refine List.forall_mem_cons.2 ⟨s_icmp_ge (off := 11) (by decide +kernel) (by decide), ?_⟩
  refine List.forall_mem_cons.2 ⟨s_bipush (k := 65) (by decide +kernel) (by decide +kernel), ?_⟩
  refine List.forall_mem_cons.2 ⟨s_iload (by decide +kernel), ?_⟩
  refine List.forall_mem_cons.2 ⟨s_iadd (by decide +kernel), ?_⟩
  refine List.forall_mem_cons.2 ⟨s_goto (off := 13) (by decide +kernel) (by decide), ?_⟩
  refine List.forall_mem_cons.2 ⟨s_bipush (k := 97) (by decide +kernel) (by decide +kernel), ?_⟩
  refine List.forall_mem_cons.2 ⟨s_iload (by decide +kernel), ?_⟩
  refine List.forall_mem_cons.2 ⟨s_bipush (k := 100) (by decide +kernel) (by decide +kernel), ?_⟩
  refine List.forall_mem_cons.2 ⟨s_isub (by decide +kernel), ?_⟩
  refine List.forall_mem_cons.2 ⟨s_iconst (k := 4) (by decide +kernel) (by decide +kernel), ?_⟩
  refine List.forall_mem_cons.2 ⟨s_idiv (by decide +kernel), ?_⟩
  refine List.forall_mem_cons.2 ⟨s_iadd (by decide +kernel), ?_⟩
  refine List.forall_mem_cons.2 ⟨s_invokevirtual (idx := 260) (M := 137) (k := 1) (ci := 8) (C := q_n8) (T := q_T8) (N := 39) (ym := q_y137) (wm := q_w137) (by decide +kernel) rfl rfl rfl (x_gdV mw_830 mw_831 mw_832 mw_675 mw_829) rfl (by decide +kernel) (by decide), ?_⟩
  refine List.forall_mem_cons.2 ⟨s_iload (by decide +kernel), ?_⟩
  refine List.forall_mem_cons.2 ⟨s_invokestatic (idx := 122) (M := 101) (ym := q_y101) (wm := q_w101) (by decide +kernel) rfl rfl (x_gdS mw_691 mw_692 mw_675 mw_690) rfl (by decide +kernel) (by decide), ?_⟩
  refine List.forall_mem_cons.2 ⟨s_ifle (off := 26) (by decide +kernel) (by decide), ?_⟩
  refine List.forall_mem_cons.2 ⟨s_aload_n (k := 0) (by decide +kernel) rfl, ?_⟩
  refine List.forall_mem_cons.2 ⟨s_bipush (k := 40) (by decide +kernel) (by decide +kernel), ?_⟩
  refine List.forall_mem_cons.2 ⟨s_invokevirtual (idx := 260) (M := 137) (k := 1) (ci := 8) (C := q_n8) (T := q_T8) (N := 39) (ym := q_y137) (wm := q_w137) (by decide +kernel) rfl rfl rfl (x_gdV mw_830 mw_831 mw_832 mw_675 mw_829) rfl (by decide +kernel) (by decide), ?_⟩
  refine List.forall_mem_cons.2 ⟨s_aload_n (k := 0) (by decide +kernel) rfl, ?_⟩
  refine List.forall_mem_cons.2 ⟨s_getfield (C := q_n8) (T := q_T8) (N := 39) (idx := 78) (ref := "ProofDeskModel") (by decide +kernel) rfl q_in8 (by decide) (x_up mw_665) rfl, ?_⟩
  refine List.forall_mem_cons.2 ⟨s_iload_n (k := 3) (by decide +kernel) rfl, ?_⟩
  refine List.forall_mem_cons.2 ⟨s_iload (by decide +kernel), ?_⟩
  refine List.forall_mem_cons.2 ⟨s_invokestatic (idx := 122) (M := 101) (ym := q_y101) (wm := q_w101) (by decide +kernel) rfl rfl (x_gdS mw_691 mw_692 mw_675 mw_690) rfl (by decide +kernel) (by decide), ?_⟩
  refine List.forall_mem_cons.2 ⟨s_iast (by decide +kernel) rfl, ?_⟩
  exact fun _ h => absurd h List.not_mem_nil
def q_k138_1 : List (Nat × xO) := [(74, x_iinc 77 3 (1)), (77, x_st (x_goto 163)), (80, x_ldi 81 3), (81, x_st (x_ifle 88 84)), (84, x_st (x_push 85 (.int (1)))), (85, x_st (x_goto 89)), (88, x_st (x_push 89 (.int (0)))), (89, x_sti 91 6), (91, x_ldi 93 6), (93, x_st (x_ifeq 163 96)), (96, x_lda 97 0), (97, x_gf 100 8 34), (100, x_ldi 101 3), (101, x_st (x_push 102 (.int (1)))), (102, x_st (x_bin 103 (fun a b => a - b))), (103, x_st (x_dup2 104)), (104, x_ald 105 0), (105, x_st (x_push 106 (.int (1)))), (106, x_st (x_bin 107 (fun a b => a - b))), (107, x_ast 108 0 (fun x => x)), (108, x_lda 109 0), (109, x_gf 112 8 34), (112, x_ldi 113 3), (113, x_st (x_push 114 (.int (1)))), (114, x_st (x_bin 115 (fun a b => a - b))), (115, x_ald 116 0), (116, x_st (x_ifne 123 119)), (119, x_st (x_push 120 (.int (1)))), (120, x_st (x_goto 124)), (123, x_st (x_push 124 (.int (0)))), (124, x_sti 126 6), (126, x_ldi 128 6), (128, x_st (x_ifeq 154 131)), (131, x_lda 132 0), (132, x_st (x_push 134 (.int (41)))), (134, x_cv 137 137 2 8), (137, x_iinc 140 3 (-1)), (140, x_ldi 141 3), (141, x_st (x_ifle 148 144)), (144, x_st (x_push 145 (.int (1))))]
set_option maxRecDepth 100000 in
set_option maxHeartbeats 4000000 in
theorem q_s138_1 (l : Launch) (s0 : State) : ∀ q ∈ q_k138_1, x_Sim (x_K s0) none l q_y138 q_c138 7 none q_w138 q.1 q.2 := by
  unfold q_k138_1
  refine List.forall_mem_cons.2 ⟨s_iinc (k := 1) (by decide +kernel) (by decide +kernel) (by decide), ?_⟩
  refine List.forall_mem_cons.2 ⟨s_goto (off := 86) (by decide +kernel) (by decide), ?_⟩
  refine List.forall_mem_cons.2 ⟨s_iload_n (k := 3) (by decide +kernel) rfl, ?_⟩
  refine List.forall_mem_cons.2 ⟨s_ifle (off := 7) (by decide +kernel) (by decide), ?_⟩
  refine List.forall_mem_cons.2 ⟨s_iconst (k := 1) (by decide +kernel) (by decide +kernel), ?_⟩
  refine List.forall_mem_cons.2 ⟨s_goto (off := 4) (by decide +kernel) (by decide), ?_⟩
  refine List.forall_mem_cons.2 ⟨s_iconst (k := 0) (by decide +kernel) (by decide +kernel), ?_⟩
  refine List.forall_mem_cons.2 ⟨s_istore (by decide +kernel) (by decide), ?_⟩
  refine List.forall_mem_cons.2 ⟨s_iload (by decide +kernel), ?_⟩
  refine List.forall_mem_cons.2 ⟨s_ifeq (off := 70) (by decide +kernel) (by decide), ?_⟩
  refine List.forall_mem_cons.2 ⟨s_aload_n (k := 0) (by decide +kernel) rfl, ?_⟩
  refine List.forall_mem_cons.2 ⟨s_getfield (C := q_n8) (T := q_T8) (N := 39) (idx := 78) (ref := "ProofDeskModel") (by decide +kernel) rfl q_in8 (by decide) (x_up mw_665) rfl, ?_⟩
  refine List.forall_mem_cons.2 ⟨s_iload_n (k := 3) (by decide +kernel) rfl, ?_⟩
  refine List.forall_mem_cons.2 ⟨s_iconst (k := 1) (by decide +kernel) (by decide +kernel), ?_⟩
  refine List.forall_mem_cons.2 ⟨s_isub (by decide +kernel), ?_⟩
  refine List.forall_mem_cons.2 ⟨s_dup2 (by decide +kernel), ?_⟩
  refine List.forall_mem_cons.2 ⟨s_iald (by decide +kernel) rfl, ?_⟩
  refine List.forall_mem_cons.2 ⟨s_iconst (k := 1) (by decide +kernel) (by decide +kernel), ?_⟩
  refine List.forall_mem_cons.2 ⟨s_isub (by decide +kernel), ?_⟩
  refine List.forall_mem_cons.2 ⟨s_iast (by decide +kernel) rfl, ?_⟩
  refine List.forall_mem_cons.2 ⟨s_aload_n (k := 0) (by decide +kernel) rfl, ?_⟩
  refine List.forall_mem_cons.2 ⟨s_getfield (C := q_n8) (T := q_T8) (N := 39) (idx := 78) (ref := "ProofDeskModel") (by decide +kernel) rfl q_in8 (by decide) (x_up mw_665) rfl, ?_⟩
  refine List.forall_mem_cons.2 ⟨s_iload_n (k := 3) (by decide +kernel) rfl, ?_⟩
  refine List.forall_mem_cons.2 ⟨s_iconst (k := 1) (by decide +kernel) (by decide +kernel), ?_⟩
  refine List.forall_mem_cons.2 ⟨s_isub (by decide +kernel), ?_⟩
  refine List.forall_mem_cons.2 ⟨s_iald (by decide +kernel) rfl, ?_⟩
  refine List.forall_mem_cons.2 ⟨s_ifne (off := 7) (by decide +kernel) (by decide), ?_⟩
  refine List.forall_mem_cons.2 ⟨s_iconst (k := 1) (by decide +kernel) (by decide +kernel), ?_⟩
  refine List.forall_mem_cons.2 ⟨s_goto (off := 4) (by decide +kernel) (by decide), ?_⟩
  refine List.forall_mem_cons.2 ⟨s_iconst (k := 0) (by decide +kernel) (by decide +kernel), ?_⟩
  refine List.forall_mem_cons.2 ⟨s_istore (by decide +kernel) (by decide), ?_⟩
  refine List.forall_mem_cons.2 ⟨s_iload (by decide +kernel), ?_⟩
  refine List.forall_mem_cons.2 ⟨s_ifeq (off := 26) (by decide +kernel) (by decide), ?_⟩
  refine List.forall_mem_cons.2 ⟨s_aload_n (k := 0) (by decide +kernel) rfl, ?_⟩
  refine List.forall_mem_cons.2 ⟨s_bipush (k := 41) (by decide +kernel) (by decide +kernel), ?_⟩
  refine List.forall_mem_cons.2 ⟨s_invokevirtual (idx := 260) (M := 137) (k := 1) (ci := 8) (C := q_n8) (T := q_T8) (N := 39) (ym := q_y137) (wm := q_w137) (by decide +kernel) rfl rfl rfl (x_gdV mw_830 mw_831 mw_832 mw_675 mw_829) rfl (by decide +kernel) (by decide), ?_⟩
  refine List.forall_mem_cons.2 ⟨s_iinc (k := -1) (by decide +kernel) (by decide +kernel) (by decide), ?_⟩
  refine List.forall_mem_cons.2 ⟨s_iload_n (k := 3) (by decide +kernel) rfl, ?_⟩
  refine List.forall_mem_cons.2 ⟨s_ifle (off := 7) (by decide +kernel) (by decide), ?_⟩
  refine List.forall_mem_cons.2 ⟨s_iconst (k := 1) (by decide +kernel) (by decide +kernel), ?_⟩
  exact fun _ h => absurd h List.not_mem_nil
def q_k138_2 : List (Nat × xO) := [(145, x_st (x_goto 149)), (148, x_st (x_push 149 (.int (0)))), (149, x_sti 151 6), (151, x_st (x_goto 91)), (154, x_lda 155 0), (155, x_st (x_push 157 (.int (44)))), (157, x_cv 160 137 2 8), (160, x_st (x_goto 91)), (163, x_iinc 166 4 (1)), (166, x_st (x_goto 5)), (169, x_rv)]
set_option maxRecDepth 100000 in
set_option maxHeartbeats 4000000 in
theorem q_s138_2 (l : Launch) (s0 : State) : ∀ q ∈ q_k138_2, x_Sim (x_K s0) none l q_y138 q_c138 7 none q_w138 q.1 q.2 := by
  unfold q_k138_2
  refine List.forall_mem_cons.2 ⟨s_goto (off := 4) (by decide +kernel) (by decide), ?_⟩
  refine List.forall_mem_cons.2 ⟨s_iconst (k := 0) (by decide +kernel) (by decide +kernel), ?_⟩
  refine List.forall_mem_cons.2 ⟨s_istore (by decide +kernel) (by decide), ?_⟩
  refine List.forall_mem_cons.2 ⟨s_goto (off := -60) (by decide +kernel) (by decide), ?_⟩
  refine List.forall_mem_cons.2 ⟨s_aload_n (k := 0) (by decide +kernel) rfl, ?_⟩
  refine List.forall_mem_cons.2 ⟨s_bipush (k := 44) (by decide +kernel) (by decide +kernel), ?_⟩
  refine List.forall_mem_cons.2 ⟨s_invokevirtual (idx := 260) (M := 137) (k := 1) (ci := 8) (C := q_n8) (T := q_T8) (N := 39) (ym := q_y137) (wm := q_w137) (by decide +kernel) rfl rfl rfl (x_gdV mw_830 mw_831 mw_832 mw_675 mw_829) rfl (by decide +kernel) (by decide), ?_⟩
  refine List.forall_mem_cons.2 ⟨s_goto (off := -69) (by decide +kernel) (by decide), ?_⟩
  refine List.forall_mem_cons.2 ⟨s_iinc (k := 1) (by decide +kernel) (by decide +kernel) (by decide), ?_⟩
  refine List.forall_mem_cons.2 ⟨s_goto (off := -161) (by decide +kernel) (by decide), ?_⟩
  refine List.forall_mem_cons.2 ⟨s_return (by decide +kernel) rfl, ?_⟩
  exact fun _ h => absurd h List.not_mem_nil
def q_k138 : List (Nat × xO) := q_k138_0 ++ q_k138_1 ++ q_k138_2
theorem q_s138 (l : Launch) (s0 : State) : ∀ q ∈ q_k138, x_Sim (x_K s0) none l q_y138 q_c138 7 none q_w138 q.1 q.2 := by
  intro q hq
  simp only [q_k138, List.mem_append] at hq
  rcases hq with (h0 | h1) | h2
  · exact q_s138_0 l s0 q h0
  · exact q_s138_1 l s0 q h1
  · exact q_s138_2 l s0 q h2
/-- ProofDeskModel.endOf(I)I -/
def q_k139_0 : List (Nat × xO) := [(0, x_st (x_push 1 (.int (1)))), (1, x_sti 2 2), (2, x_ldi 3 1), (3, x_sti 4 3), (4, x_ldi 5 2), (5, x_st (x_ifle 28 8)), (8, x_ldi 9 2), (9, x_lda 10 0), (10, x_gf 13 8 3), (13, x_ldi 14 3), (14, x_ald 15 0), (15, x_cl_ 18 101 1), (18, x_st (x_bin 19 (fun a b => a + b))), (19, x_st (x_push 20 (.int (1)))), (20, x_st (x_bin 21 (fun a b => a - b))), (21, x_sti 22 2), (22, x_iinc 25 3 (1)), (25, x_st (x_goto 4)), (28, x_ldi 29 3), (29, x_ri (.int))]
set_option maxRecDepth 100000 in
set_option maxHeartbeats 4000000 in
theorem q_s139_0 (l : Launch) (s0 : State) : ∀ q ∈ q_k139_0, x_Sim (x_K s0) none l q_y139 q_c139 4 (some .int) q_w139 q.1 q.2 := by
  unfold q_k139_0
  refine List.forall_mem_cons.2 ⟨s_iconst (k := 1) (by decide +kernel) (by decide +kernel), ?_⟩
  refine List.forall_mem_cons.2 ⟨s_istore_n (k := 2) (by decide +kernel) rfl (by decide), ?_⟩
  refine List.forall_mem_cons.2 ⟨s_iload_n (k := 1) (by decide +kernel) rfl, ?_⟩
  refine List.forall_mem_cons.2 ⟨s_istore_n (k := 3) (by decide +kernel) rfl (by decide), ?_⟩
  refine List.forall_mem_cons.2 ⟨s_iload_n (k := 2) (by decide +kernel) rfl, ?_⟩
  refine List.forall_mem_cons.2 ⟨s_ifle (off := 23) (by decide +kernel) (by decide), ?_⟩
  refine List.forall_mem_cons.2 ⟨s_iload_n (k := 2) (by decide +kernel) rfl, ?_⟩
  refine List.forall_mem_cons.2 ⟨s_aload_n (k := 0) (by decide +kernel) rfl, ?_⟩
  refine List.forall_mem_cons.2 ⟨s_getfield (C := q_n8) (T := q_T8) (N := 39) (idx := 7) (ref := "ProofDeskModel") (by decide +kernel) rfl q_in8 (by decide) (x_up mw_643) rfl, ?_⟩
  refine List.forall_mem_cons.2 ⟨s_iload_n (k := 3) (by decide +kernel) rfl, ?_⟩
  refine List.forall_mem_cons.2 ⟨s_iald (by decide +kernel) rfl, ?_⟩
  refine List.forall_mem_cons.2 ⟨s_invokestatic (idx := 122) (M := 101) (ym := q_y101) (wm := q_w101) (by decide +kernel) rfl rfl (x_gdS mw_691 mw_692 mw_675 mw_690) rfl (by decide +kernel) (by decide), ?_⟩
  refine List.forall_mem_cons.2 ⟨s_iadd (by decide +kernel), ?_⟩
  refine List.forall_mem_cons.2 ⟨s_iconst (k := 1) (by decide +kernel) (by decide +kernel), ?_⟩
  refine List.forall_mem_cons.2 ⟨s_isub (by decide +kernel), ?_⟩
  refine List.forall_mem_cons.2 ⟨s_istore_n (k := 2) (by decide +kernel) rfl (by decide), ?_⟩
  refine List.forall_mem_cons.2 ⟨s_iinc (k := 1) (by decide +kernel) (by decide +kernel) (by decide), ?_⟩
  refine List.forall_mem_cons.2 ⟨s_goto (off := -21) (by decide +kernel) (by decide), ?_⟩
  refine List.forall_mem_cons.2 ⟨s_iload_n (k := 3) (by decide +kernel) rfl, ?_⟩
  refine List.forall_mem_cons.2 ⟨s_ireturn (ty := .int) (by decide +kernel) rfl, ?_⟩
  exact fun _ h => absurd h List.not_mem_nil
def q_k139 : List (Nat × xO) := q_k139_0
theorem q_s139 (l : Launch) (s0 : State) : ∀ q ∈ q_k139, x_Sim (x_K s0) none l q_y139 q_c139 4 (some .int) q_w139 q.1 q.2 := q_s139_0 l s0
/-- ProofDeskModel.letter(II)I -/
def q_k140_0 : List (Nat × xO) := [(0, x_lda 1 0), (1, x_st (x_push 2 (.int (0)))), (2, x_pf 5 8 0 (.int)), (5, x_lda 6 0), (6, x_ldi 7 1), (7, x_cv 10 134 2 8), (10, x_st (x_ifeq 17 13)), (13, x_ldi 14 2), (14, x_st (x_ifge 19 17)), (17, x_st (x_push 18 (.int (-1)))), (18, x_ri (.int)), (19, x_lda 20 0), (20, x_st (x_push 21 (.int (0)))), (21, x_pf 24 8 36 (.int)), (24, x_lda 25 0), (25, x_ldi 26 2), (26, x_pf 29 8 37 (.int)), (29, x_lda 30 0), (30, x_st (x_push 31 (.int (-1)))), (31, x_pf 34 8 38 (.int)), (34, x_lda 35 0), (35, x_gf 38 8 5), (38, x_ldi 39 1), (39, x_ald 40 0), (40, x_st (x_ifne 49 43)), (43, x_lda 44 0), (44, x_st (x_push 46 (.int (35)))), (46, x_cv 49 137 2 8), (49, x_st (x_push 50 (.int (0)))), (50, x_sti 51 3), (51, x_ldi 52 3), (52, x_lda 53 0), (53, x_gf 56 8 5), (56, x_ldi 57 1), (57, x_ald 58 0), (58, x_st (x_icge 192 61)), (61, x_st (x_push 63 (.int (44)))), (63, x_ldi 64 1), (64, x_st (x_bin 65 (fun a b => a * b))), (65, x_lda 66 0)]
set_option maxRecDepth 100000 in
set_option maxHeartbeats 4000000 in
theorem q_s140_0 (l : Launch) (s0 : State) : ∀ q ∈ q_k140_0, x_Sim (x_K s0) none l q_y140 q_c140 7 (some .int) q_w140 q.1 q.2 := by
  unfold q_k140_0
  refine List.forall_mem_cons.2 ⟨s_aload_n (k := 0) (by decide +kernel) rfl, ?_⟩
  refine List.forall_mem_cons.2 ⟨s_iconst (k := 0) (by decide +kernel) (by decide +kernel), ?_⟩
  refine List.forall_mem_cons.2 ⟨s_putfield (C := q_n8) (T := q_T8) (N := 39) (idx := 84) (ref := "ProofDeskModel") q_t8 (by decide +kernel) rfl q_in8 q_ty8 q_nm8 (by decide) (x_up mw_667) rfl rfl (by decide +kernel), ?_⟩
  refine List.forall_mem_cons.2 ⟨s_aload_n (k := 0) (by decide +kernel) rfl, ?_⟩
  refine List.forall_mem_cons.2 ⟨s_iload_n (k := 1) (by decide +kernel) rfl, ?_⟩
  refine List.forall_mem_cons.2 ⟨s_invokevirtual (idx := 248) (M := 134) (k := 1) (ci := 8) (C := q_n8) (T := q_T8) (N := 39) (ym := q_y134) (wm := q_w134) (by decide +kernel) rfl rfl rfl (x_gdV mw_823 mw_824 mw_825 mw_675 mw_822) rfl (by decide +kernel) (by decide), ?_⟩
  refine List.forall_mem_cons.2 ⟨s_ifeq (off := 7) (by decide +kernel) (by decide), ?_⟩
  refine List.forall_mem_cons.2 ⟨s_iload_n (k := 2) (by decide +kernel) rfl, ?_⟩
  refine List.forall_mem_cons.2 ⟨s_ifge (off := 5) (by decide +kernel) (by decide), ?_⟩
  refine List.forall_mem_cons.2 ⟨s_iconst (k := -1) (by decide +kernel) (by decide +kernel), ?_⟩
  refine List.forall_mem_cons.2 ⟨s_ireturn (ty := .int) (by decide +kernel) rfl, ?_⟩
  refine List.forall_mem_cons.2 ⟨s_aload_n (k := 0) (by decide +kernel) rfl, ?_⟩
  refine List.forall_mem_cons.2 ⟨s_iconst (k := 0) (by decide +kernel) (by decide +kernel), ?_⟩
  refine List.forall_mem_cons.2 ⟨s_putfield (C := q_n8) (T := q_T8) (N := 39) (idx := 251) (ref := "ProofDeskModel") q_t8 (by decide +kernel) rfl q_in8 q_ty8 q_nm8 (by decide) (x_up mw_826) rfl rfl (by decide +kernel), ?_⟩
  refine List.forall_mem_cons.2 ⟨s_aload_n (k := 0) (by decide +kernel) rfl, ?_⟩
  refine List.forall_mem_cons.2 ⟨s_iload_n (k := 2) (by decide +kernel) rfl, ?_⟩
  refine List.forall_mem_cons.2 ⟨s_putfield (C := q_n8) (T := q_T8) (N := 39) (idx := 254) (ref := "ProofDeskModel") q_t8 (by decide +kernel) rfl q_in8 q_ty8 q_nm8 (by decide) (x_up mw_827) rfl rfl (by decide +kernel), ?_⟩
  refine List.forall_mem_cons.2 ⟨s_aload_n (k := 0) (by decide +kernel) rfl, ?_⟩
  refine List.forall_mem_cons.2 ⟨s_iconst (k := -1) (by decide +kernel) (by decide +kernel), ?_⟩
  refine List.forall_mem_cons.2 ⟨s_putfield (C := q_n8) (T := q_T8) (N := 39) (idx := 257) (ref := "ProofDeskModel") q_t8 (by decide +kernel) rfl q_in8 q_ty8 q_nm8 (by decide) (x_up mw_828) rfl rfl (by decide +kernel), ?_⟩
  refine List.forall_mem_cons.2 ⟨s_aload_n (k := 0) (by decide +kernel) rfl, ?_⟩
  refine List.forall_mem_cons.2 ⟨s_getfield (C := q_n8) (T := q_T8) (N := 39) (idx := 16) (ref := "ProofDeskModel") (by decide +kernel) rfl q_in8 (by decide) (x_up mw_645) rfl, ?_⟩
  refine List.forall_mem_cons.2 ⟨s_iload_n (k := 1) (by decide +kernel) rfl, ?_⟩
  refine List.forall_mem_cons.2 ⟨s_iald (by decide +kernel) rfl, ?_⟩
  refine List.forall_mem_cons.2 ⟨s_ifne (off := 9) (by decide +kernel) (by decide), ?_⟩
  refine List.forall_mem_cons.2 ⟨s_aload_n (k := 0) (by decide +kernel) rfl, ?_⟩
  refine List.forall_mem_cons.2 ⟨s_bipush (k := 35) (by decide +kernel) (by decide +kernel), ?_⟩
  refine List.forall_mem_cons.2 ⟨s_invokevirtual (idx := 260) (M := 137) (k := 1) (ci := 8) (C := q_n8) (T := q_T8) (N := 39) (ym := q_y137) (wm := q_w137) (by decide +kernel) rfl rfl rfl (x_gdV mw_830 mw_831 mw_832 mw_675 mw_829) rfl (by decide +kernel) (by decide), ?_⟩
  refine List.forall_mem_cons.2 ⟨s_iconst (k := 0) (by decide +kernel) (by decide +kernel), ?_⟩
  refine List.forall_mem_cons.2 ⟨s_istore_n (k := 3) (by decide +kernel) rfl (by decide), ?_⟩
  refine List.forall_mem_cons.2 ⟨s_iload_n (k := 3) (by decide +kernel) rfl, ?_⟩
  refine List.forall_mem_cons.2 ⟨s_aload_n (k := 0) (by decide +kernel) rfl, ?_⟩
  refine List.forall_mem_cons.2 ⟨s_getfield (C := q_n8) (T := q_T8) (N := 39) (idx := 16) (ref := "ProofDeskModel") (by decide +kernel) rfl q_in8 (by decide) (x_up mw_645) rfl, ?_⟩
  refine List.forall_mem_cons.2 ⟨s_iload_n (k := 1) (by decide +kernel) rfl, ?_⟩
  refine List.forall_mem_cons.2 ⟨s_iald (by decide +kernel) rfl, ?_⟩
  refine List.forall_mem_cons.2 ⟨s_icmp_ge (off := 134) (by decide +kernel) (by decide), ?_⟩
  refine List.forall_mem_cons.2 ⟨s_bipush (k := 44) (by decide +kernel) (by decide +kernel), ?_⟩
  refine List.forall_mem_cons.2 ⟨s_iload_n (k := 1) (by decide +kernel) rfl, ?_⟩
  refine List.forall_mem_cons.2 ⟨s_imul (by decide +kernel), ?_⟩
  refine List.forall_mem_cons.2 ⟨s_aload_n (k := 0) (by decide +kernel) rfl, ?_⟩
  exact fun _ h => absurd h List.not_mem_nil
def q_k140_1 : List (Nat × xO) := [(66, x_gf 69 8 4), (69, x_st (x_push 71 (.int (7)))), (71, x_ldi 72 1), (72, x_st (x_bin 73 (fun a b => a * b))), (73, x_ldi 74 3), (74, x_st (x_bin 75 (fun a b => a + b))), (75, x_ald 76 0), (76, x_st (x_bin 77 (fun a b => a + b))), (77, x_sti 79 4), (79, x_st (x_push 81 (.int (44)))), (81, x_ldi 82 1), (82, x_st (x_bin 83 (fun a b => a * b))), (83, x_lda 84 0), (84, x_gf 87 8 4), (87, x_st (x_push 89 (.int (7)))), (89, x_ldi 90 1), (90, x_st (x_bin 91 (fun a b => a * b))), (91, x_ldi 92 3), (92, x_st (x_bin 93 (fun a b => a + b))), (93, x_st (x_push 94 (.int (1)))), (94, x_st (x_bin 95 (fun a b => a + b))), (95, x_ald 96 0), (96, x_st (x_bin 97 (fun a b => a + b))), (97, x_sti 99 5), (99, x_ldi 100 3), (100, x_st (x_ifle 109 103)), (103, x_lda 104 0), (104, x_st (x_push 106 (.int (124)))), (106, x_cv 109 137 2 8), (109, x_lda 110 0), (110, x_gf 113 8 8), (113, x_st (x_push 115 (.int (7)))), (115, x_ldi 116 1), (116, x_st (x_bin 117 (fun a b => a * b))), (117, x_ldi 118 3), (118, x_st (x_bin 119 (fun a b => a + b))), (119, x_ald 120 1), (120, x_st (x_ifeq 129 123)), (123, x_lda 124 0), (124, x_st (x_push 126 (.int (126))))]
set_option maxRecDepth 100000 in
set_option maxHeartbeats 4000000 in
theorem q_s140_1 (l : Launch) (s0 : State) : ∀ q ∈ q_k140_1, x_Sim (x_K s0) none l q_y140 q_c140 7 (some .int) q_w140 q.1 q.2 := by
  unfold q_k140_1
  refine List.forall_mem_cons.2 ⟨s_getfield (C := q_n8) (T := q_T8) (N := 39) (idx := 13) (ref := "ProofDeskModel") (by decide +kernel) rfl q_in8 (by decide) (x_up mw_644) rfl, ?_⟩
  refine List.forall_mem_cons.2 ⟨s_bipush (k := 7) (by decide +kernel) (by decide +kernel), ?_⟩
  refine List.forall_mem_cons.2 ⟨s_iload_n (k := 1) (by decide +kernel) rfl, ?_⟩
  refine List.forall_mem_cons.2 ⟨s_imul (by decide +kernel), ?_⟩
  refine List.forall_mem_cons.2 ⟨s_iload_n (k := 3) (by decide +kernel) rfl, ?_⟩
  refine List.forall_mem_cons.2 ⟨s_iadd (by decide +kernel), ?_⟩
  refine List.forall_mem_cons.2 ⟨s_iald (by decide +kernel) rfl, ?_⟩
  refine List.forall_mem_cons.2 ⟨s_iadd (by decide +kernel), ?_⟩
  refine List.forall_mem_cons.2 ⟨s_istore (by decide +kernel) (by decide), ?_⟩
  refine List.forall_mem_cons.2 ⟨s_bipush (k := 44) (by decide +kernel) (by decide +kernel), ?_⟩
  refine List.forall_mem_cons.2 ⟨s_iload_n (k := 1) (by decide +kernel) rfl, ?_⟩
  refine List.forall_mem_cons.2 ⟨s_imul (by decide +kernel), ?_⟩
  refine List.forall_mem_cons.2 ⟨s_aload_n (k := 0) (by decide +kernel) rfl, ?_⟩
  refine List.forall_mem_cons.2 ⟨s_getfield (C := q_n8) (T := q_T8) (N := 39) (idx := 13) (ref := "ProofDeskModel") (by decide +kernel) rfl q_in8 (by decide) (x_up mw_644) rfl, ?_⟩
  refine List.forall_mem_cons.2 ⟨s_bipush (k := 7) (by decide +kernel) (by decide +kernel), ?_⟩
  refine List.forall_mem_cons.2 ⟨s_iload_n (k := 1) (by decide +kernel) rfl, ?_⟩
  refine List.forall_mem_cons.2 ⟨s_imul (by decide +kernel), ?_⟩
  refine List.forall_mem_cons.2 ⟨s_iload_n (k := 3) (by decide +kernel) rfl, ?_⟩
  refine List.forall_mem_cons.2 ⟨s_iadd (by decide +kernel), ?_⟩
  refine List.forall_mem_cons.2 ⟨s_iconst (k := 1) (by decide +kernel) (by decide +kernel), ?_⟩
  refine List.forall_mem_cons.2 ⟨s_iadd (by decide +kernel), ?_⟩
  refine List.forall_mem_cons.2 ⟨s_iald (by decide +kernel) rfl, ?_⟩
  refine List.forall_mem_cons.2 ⟨s_iadd (by decide +kernel), ?_⟩
  refine List.forall_mem_cons.2 ⟨s_istore (by decide +kernel) (by decide), ?_⟩
  refine List.forall_mem_cons.2 ⟨s_iload_n (k := 3) (by decide +kernel) rfl, ?_⟩
  refine List.forall_mem_cons.2 ⟨s_ifle (off := 9) (by decide +kernel) (by decide), ?_⟩
  refine List.forall_mem_cons.2 ⟨s_aload_n (k := 0) (by decide +kernel) rfl, ?_⟩
  refine List.forall_mem_cons.2 ⟨s_bipush (k := 124) (by decide +kernel) (by decide +kernel), ?_⟩
  refine List.forall_mem_cons.2 ⟨s_invokevirtual (idx := 260) (M := 137) (k := 1) (ci := 8) (C := q_n8) (T := q_T8) (N := 39) (ym := q_y137) (wm := q_w137) (by decide +kernel) rfl rfl rfl (x_gdV mw_830 mw_831 mw_832 mw_675 mw_829) rfl (by decide +kernel) (by decide), ?_⟩
  refine List.forall_mem_cons.2 ⟨s_aload_n (k := 0) (by decide +kernel) rfl, ?_⟩
  refine List.forall_mem_cons.2 ⟨s_getfield (C := q_n8) (T := q_T8) (N := 39) (idx := 25) (ref := "ProofDeskModel") (by decide +kernel) rfl q_in8 (by decide) (x_up mw_648) rfl, ?_⟩
  refine List.forall_mem_cons.2 ⟨s_bipush (k := 7) (by decide +kernel) (by decide +kernel), ?_⟩
  refine List.forall_mem_cons.2 ⟨s_iload_n (k := 1) (by decide +kernel) rfl, ?_⟩
  refine List.forall_mem_cons.2 ⟨s_imul (by decide +kernel), ?_⟩
  refine List.forall_mem_cons.2 ⟨s_iload_n (k := 3) (by decide +kernel) rfl, ?_⟩
  refine List.forall_mem_cons.2 ⟨s_iadd (by decide +kernel), ?_⟩
  refine List.forall_mem_cons.2 ⟨s_zald (by decide +kernel) rfl, ?_⟩
  refine List.forall_mem_cons.2 ⟨s_ifeq (off := 9) (by decide +kernel) (by decide), ?_⟩
  refine List.forall_mem_cons.2 ⟨s_aload_n (k := 0) (by decide +kernel) rfl, ?_⟩
  refine List.forall_mem_cons.2 ⟨s_bipush (k := 126) (by decide +kernel) (by decide +kernel), ?_⟩
  exact fun _ h => absurd h List.not_mem_nil
def q_k140_2 : List (Nat × xO) := [(126, x_cv 129 137 2 8), (129, x_lda 130 0), (130, x_gf 133 8 3), (133, x_ldi 135 4), (135, x_ald 136 0), (136, x_st (x_push 138 (.int (99)))), (138, x_st (x_icne 178 141)), (141, x_lda 142 0), (142, x_ldi 144 4), (144, x_st (x_push 145 (.int (1)))), (145, x_st (x_bin 146 (fun a b => a + b))), (146, x_cv 149 139 2 8), (149, x_sti 151 6), (151, x_lda 152 0), (152, x_ldi 154 4), (154, x_st (x_push 155 (.int (1)))), (155, x_st (x_bin 156 (fun a b => a + b))), (156, x_ldi 158 6), (158, x_cv 161 138 3 8), (161, x_lda 162 0), (162, x_st (x_push 164 (.int (61)))), (164, x_cv 167 137 2 8), (167, x_lda 168 0), (168, x_ldi 170 6), (170, x_ldi 172 5), (172, x_cv 175 138 3 8), (175, x_st (x_goto 186)), (178, x_lda 179 0), (179, x_ldi 181 4), (181, x_ldi 183 5), (183, x_cv 186 138 3 8), (186, x_iinc 189 3 (1)), (189, x_st (x_goto 51)), (192, x_lda 193 0), (193, x_gf 196 8 38), (196, x_ri (.int))]
set_option maxRecDepth 100000 in
set_option maxHeartbeats 4000000 in
theorem q_s140_2 (l : Launch) (s0 : State) : ∀ q ∈ q_k140_2, x_Sim (x_K s0) none l q_y140 q_c140 7 (some .int) q_w140 q.1 q.2 := by
  unfold q_k140_2
  refine List.forall_mem_cons.2 ⟨s_invokevirtual (idx := 260) (M := 137) (k := 1) (ci := 8) (C := q_n8) (T := q_T8) (N := 39) (ym := q_y137) (wm := q_w137) (by decide +kernel) rfl rfl rfl (x_gdV mw_830 mw_831 mw_832 mw_675 mw_829) rfl (by decide +kernel) (by decide), ?_⟩
  refine List.forall_mem_cons.2 ⟨s_aload_n (k := 0) (by decide +kernel) rfl, ?_⟩
  refine List.forall_mem_cons.2 ⟨s_getfield (C := q_n8) (T := q_T8) (N := 39) (idx := 7) (ref := "ProofDeskModel") (by decide +kernel) rfl q_in8 (by decide) (x_up mw_643) rfl, ?_⟩
  refine List.forall_mem_cons.2 ⟨s_iload (by decide +kernel), ?_⟩
  refine List.forall_mem_cons.2 ⟨s_iald (by decide +kernel) rfl, ?_⟩
  refine List.forall_mem_cons.2 ⟨s_bipush (k := 99) (by decide +kernel) (by decide +kernel), ?_⟩
  refine List.forall_mem_cons.2 ⟨s_icmp_ne (off := 40) (by decide +kernel) (by decide), ?_⟩
  refine List.forall_mem_cons.2 ⟨s_aload_n (k := 0) (by decide +kernel) rfl, ?_⟩
  refine List.forall_mem_cons.2 ⟨s_iload (by decide +kernel), ?_⟩
  refine List.forall_mem_cons.2 ⟨s_iconst (k := 1) (by decide +kernel) (by decide +kernel), ?_⟩
  refine List.forall_mem_cons.2 ⟨s_iadd (by decide +kernel), ?_⟩
  refine List.forall_mem_cons.2 ⟨s_invokevirtual (idx := 263) (M := 139) (k := 1) (ci := 8) (C := q_n8) (T := q_T8) (N := 39) (ym := q_y139) (wm := q_w139) (by decide +kernel) rfl rfl rfl (x_gdV mw_834 mw_835 mw_836 mw_675 mw_833) rfl (by decide +kernel) (by decide), ?_⟩
  refine List.forall_mem_cons.2 ⟨s_istore (by decide +kernel) (by decide), ?_⟩
  refine List.forall_mem_cons.2 ⟨s_aload_n (k := 0) (by decide +kernel) rfl, ?_⟩
  refine List.forall_mem_cons.2 ⟨s_iload (by decide +kernel), ?_⟩
  refine List.forall_mem_cons.2 ⟨s_iconst (k := 1) (by decide +kernel) (by decide +kernel), ?_⟩
  refine List.forall_mem_cons.2 ⟨s_iadd (by decide +kernel), ?_⟩
  refine List.forall_mem_cons.2 ⟨s_iload (by decide +kernel), ?_⟩
  refine List.forall_mem_cons.2 ⟨s_invokevirtual (idx := 266) (M := 138) (k := 2) (ci := 8) (C := q_n8) (T := q_T8) (N := 39) (ym := q_y138) (wm := q_w138) (by decide +kernel) rfl rfl rfl (x_gdV mw_838 mw_839 mw_840 mw_675 mw_837) rfl (by decide +kernel) (by decide), ?_⟩
  refine List.forall_mem_cons.2 ⟨s_aload_n (k := 0) (by decide +kernel) rfl, ?_⟩
  refine List.forall_mem_cons.2 ⟨s_bipush (k := 61) (by decide +kernel) (by decide +kernel), ?_⟩
  refine List.forall_mem_cons.2 ⟨s_invokevirtual (idx := 260) (M := 137) (k := 1) (ci := 8) (C := q_n8) (T := q_T8) (N := 39) (ym := q_y137) (wm := q_w137) (by decide +kernel) rfl rfl rfl (x_gdV mw_830 mw_831 mw_832 mw_675 mw_829) rfl (by decide +kernel) (by decide), ?_⟩
  refine List.forall_mem_cons.2 ⟨s_aload_n (k := 0) (by decide +kernel) rfl, ?_⟩
  refine List.forall_mem_cons.2 ⟨s_iload (by decide +kernel), ?_⟩
  refine List.forall_mem_cons.2 ⟨s_iload (by decide +kernel), ?_⟩
  refine List.forall_mem_cons.2 ⟨s_invokevirtual (idx := 266) (M := 138) (k := 2) (ci := 8) (C := q_n8) (T := q_T8) (N := 39) (ym := q_y138) (wm := q_w138) (by decide +kernel) rfl rfl rfl (x_gdV mw_838 mw_839 mw_840 mw_675 mw_837) rfl (by decide +kernel) (by decide), ?_⟩
  refine List.forall_mem_cons.2 ⟨s_goto (off := 11) (by decide +kernel) (by decide), ?_⟩
  refine List.forall_mem_cons.2 ⟨s_aload_n (k := 0) (by decide +kernel) rfl, ?_⟩
  refine List.forall_mem_cons.2 ⟨s_iload (by decide +kernel), ?_⟩
  refine List.forall_mem_cons.2 ⟨s_iload (by decide +kernel), ?_⟩
  refine List.forall_mem_cons.2 ⟨s_invokevirtual (idx := 266) (M := 138) (k := 2) (ci := 8) (C := q_n8) (T := q_T8) (N := 39) (ym := q_y138) (wm := q_w138) (by decide +kernel) rfl rfl rfl (x_gdV mw_838 mw_839 mw_840 mw_675 mw_837) rfl (by decide +kernel) (by decide), ?_⟩
  refine List.forall_mem_cons.2 ⟨s_iinc (k := 1) (by decide +kernel) (by decide +kernel) (by decide), ?_⟩
  refine List.forall_mem_cons.2 ⟨s_goto (off := -138) (by decide +kernel) (by decide), ?_⟩
  refine List.forall_mem_cons.2 ⟨s_aload_n (k := 0) (by decide +kernel) rfl, ?_⟩
  refine List.forall_mem_cons.2 ⟨s_getfield (C := q_n8) (T := q_T8) (N := 39) (idx := 257) (ref := "ProofDeskModel") (by decide +kernel) rfl q_in8 (by decide) (x_up mw_828) rfl, ?_⟩
  refine List.forall_mem_cons.2 ⟨s_ireturn (ty := .int) (by decide +kernel) rfl, ?_⟩
  exact fun _ h => absurd h List.not_mem_nil
def q_k140 : List (Nat × xO) := q_k140_0 ++ q_k140_1 ++ q_k140_2
theorem q_s140 (l : Launch) (s0 : State) : ∀ q ∈ q_k140, x_Sim (x_K s0) none l q_y140 q_c140 7 (some .int) q_w140 q.1 q.2 := by
  intro q hq
  simp only [q_k140, List.mem_append] at hq
  rcases hq with (h0 | h1) | h2
  · exact q_s140_0 l s0 q h0
  · exact q_s140_1 l s0 q h1
  · exact q_s140_2 l s0 q h2
/-- ProofDeskModel.depth(I)I -/
def q_k141_0 : List (Nat × xO) := [(0, x_lda 1 0), (1, x_st (x_push 2 (.int (0)))), (2, x_pf 5 8 0 (.int)), (5, x_lda 6 0), (6, x_ldi 7 1), (7, x_cv 10 134 2 8), (10, x_st (x_ifeq 22 13)), (13, x_lda 14 0), (14, x_gf 17 8 6), (17, x_ldi 18 1), (18, x_ald 19 0), (19, x_st (x_goto 23)), (22, x_st (x_push 23 (.int (-1)))), (23, x_ri (.int))]
set_option maxRecDepth 100000 in
set_option maxHeartbeats 4000000 in
theorem q_s141_0 (l : Launch) (s0 : State) : ∀ q ∈ q_k141_0, x_Sim (x_K s0) none l q_y141 q_c141 2 (some .int) q_w141 q.1 q.2 := by
  unfold q_k141_0
  refine List.forall_mem_cons.2 ⟨s_aload_n (k := 0) (by decide +kernel) rfl, ?_⟩
  refine List.forall_mem_cons.2 ⟨s_iconst (k := 0) (by decide +kernel) (by decide +kernel), ?_⟩
  refine List.forall_mem_cons.2 ⟨s_putfield (C := q_n8) (T := q_T8) (N := 39) (idx := 84) (ref := "ProofDeskModel") q_t8 (by decide +kernel) rfl q_in8 q_ty8 q_nm8 (by decide) (x_up mw_667) rfl rfl (by decide +kernel), ?_⟩
  refine List.forall_mem_cons.2 ⟨s_aload_n (k := 0) (by decide +kernel) rfl, ?_⟩
  refine List.forall_mem_cons.2 ⟨s_iload_n (k := 1) (by decide +kernel) rfl, ?_⟩
  refine List.forall_mem_cons.2 ⟨s_invokevirtual (idx := 248) (M := 134) (k := 1) (ci := 8) (C := q_n8) (T := q_T8) (N := 39) (ym := q_y134) (wm := q_w134) (by decide +kernel) rfl rfl rfl (x_gdV mw_823 mw_824 mw_825 mw_675 mw_822) rfl (by decide +kernel) (by decide), ?_⟩
  refine List.forall_mem_cons.2 ⟨s_ifeq (off := 12) (by decide +kernel) (by decide), ?_⟩
  refine List.forall_mem_cons.2 ⟨s_aload_n (k := 0) (by decide +kernel) rfl, ?_⟩
  refine List.forall_mem_cons.2 ⟨s_getfield (C := q_n8) (T := q_T8) (N := 39) (idx := 19) (ref := "ProofDeskModel") (by decide +kernel) rfl q_in8 (by decide) (x_up mw_646) rfl, ?_⟩
  refine List.forall_mem_cons.2 ⟨s_iload_n (k := 1) (by decide +kernel) rfl, ?_⟩
  refine List.forall_mem_cons.2 ⟨s_iald (by decide +kernel) rfl, ?_⟩
  refine List.forall_mem_cons.2 ⟨s_goto (off := 4) (by decide +kernel) (by decide), ?_⟩
  refine List.forall_mem_cons.2 ⟨s_iconst (k := -1) (by decide +kernel) (by decide +kernel), ?_⟩
  refine List.forall_mem_cons.2 ⟨s_ireturn (ty := .int) (by decide +kernel) rfl, ?_⟩
  exact fun _ h => absurd h List.not_mem_nil
def q_k141 : List (Nat × xO) := q_k141_0
theorem q_s141 (l : Launch) (s0 : State) : ∀ q ∈ q_k141, x_Sim (x_K s0) none l q_y141 q_c141 2 (some .int) q_w141 q.1 q.2 := q_s141_0 l s0
/-- ProofDeskModel.needs(II)Z -/
def q_k142_0 : List (Nat × xO) := [(0, x_lda 1 0), (1, x_st (x_push 2 (.int (0)))), (2, x_pf 5 8 0 (.int)), (5, x_lda 6 0), (6, x_ldi 7 1), (7, x_cv 10 134 2 8), (10, x_st (x_ifeq 48 13)), (13, x_lda 14 0), (14, x_ldi 15 2), (15, x_cv 18 134 2 8), (18, x_st (x_ifeq 48 21)), (21, x_lda 22 0), (22, x_gf 25 8 9), (25, x_ldi 26 2), (26, x_ald 27 1), (27, x_st (x_ifeq 48 30)), (30, x_lda 31 0), (31, x_gf 34 8 7), (34, x_ldi 35 1), (35, x_ald 36 0), (36, x_ldi 37 2), (37, x_st (x_bin 38 (fun a b => a >>> (b &&& 31)))), (38, x_st (x_push 39 (.int (1)))), (39, x_st (x_bin 40 (fun a b => a &&& b))), (40, x_st (x_push 41 (.int (1)))), (41, x_st (x_icne 48 44)), (44, x_st (x_push 45 (.int (1)))), (45, x_st (x_goto 49)), (48, x_st (x_push 49 (.int (0)))), (49, x_ri (.boolean))]
set_option maxRecDepth 100000 in
set_option maxHeartbeats 4000000 in
theorem q_s142_0 (l : Launch) (s0 : State) : ∀ q ∈ q_k142_0, x_Sim (x_K s0) none l q_y142 q_c142 3 (some .boolean) q_w142 q.1 q.2 := by
  unfold q_k142_0
  refine List.forall_mem_cons.2 ⟨s_aload_n (k := 0) (by decide +kernel) rfl, ?_⟩
  refine List.forall_mem_cons.2 ⟨s_iconst (k := 0) (by decide +kernel) (by decide +kernel), ?_⟩
  refine List.forall_mem_cons.2 ⟨s_putfield (C := q_n8) (T := q_T8) (N := 39) (idx := 84) (ref := "ProofDeskModel") q_t8 (by decide +kernel) rfl q_in8 q_ty8 q_nm8 (by decide) (x_up mw_667) rfl rfl (by decide +kernel), ?_⟩
  refine List.forall_mem_cons.2 ⟨s_aload_n (k := 0) (by decide +kernel) rfl, ?_⟩
  refine List.forall_mem_cons.2 ⟨s_iload_n (k := 1) (by decide +kernel) rfl, ?_⟩
  refine List.forall_mem_cons.2 ⟨s_invokevirtual (idx := 248) (M := 134) (k := 1) (ci := 8) (C := q_n8) (T := q_T8) (N := 39) (ym := q_y134) (wm := q_w134) (by decide +kernel) rfl rfl rfl (x_gdV mw_823 mw_824 mw_825 mw_675 mw_822) rfl (by decide +kernel) (by decide), ?_⟩
  refine List.forall_mem_cons.2 ⟨s_ifeq (off := 38) (by decide +kernel) (by decide), ?_⟩
  refine List.forall_mem_cons.2 ⟨s_aload_n (k := 0) (by decide +kernel) rfl, ?_⟩
  refine List.forall_mem_cons.2 ⟨s_iload_n (k := 2) (by decide +kernel) rfl, ?_⟩
  refine List.forall_mem_cons.2 ⟨s_invokevirtual (idx := 248) (M := 134) (k := 1) (ci := 8) (C := q_n8) (T := q_T8) (N := 39) (ym := q_y134) (wm := q_w134) (by decide +kernel) rfl rfl rfl (x_gdV mw_823 mw_824 mw_825 mw_675 mw_822) rfl (by decide +kernel) (by decide), ?_⟩
  refine List.forall_mem_cons.2 ⟨s_ifeq (off := 30) (by decide +kernel) (by decide), ?_⟩
  refine List.forall_mem_cons.2 ⟨s_aload_n (k := 0) (by decide +kernel) rfl, ?_⟩
  refine List.forall_mem_cons.2 ⟨s_getfield (C := q_n8) (T := q_T8) (N := 39) (idx := 29) (ref := "ProofDeskModel") (by decide +kernel) rfl q_in8 (by decide) (x_up mw_649) rfl, ?_⟩
  refine List.forall_mem_cons.2 ⟨s_iload_n (k := 2) (by decide +kernel) rfl, ?_⟩
  refine List.forall_mem_cons.2 ⟨s_zald (by decide +kernel) rfl, ?_⟩
  refine List.forall_mem_cons.2 ⟨s_ifeq (off := 21) (by decide +kernel) (by decide), ?_⟩
  refine List.forall_mem_cons.2 ⟨s_aload_n (k := 0) (by decide +kernel) rfl, ?_⟩
  refine List.forall_mem_cons.2 ⟨s_getfield (C := q_n8) (T := q_T8) (N := 39) (idx := 22) (ref := "ProofDeskModel") (by decide +kernel) rfl q_in8 (by decide) (x_up mw_647) rfl, ?_⟩
  refine List.forall_mem_cons.2 ⟨s_iload_n (k := 1) (by decide +kernel) rfl, ?_⟩
  refine List.forall_mem_cons.2 ⟨s_iald (by decide +kernel) rfl, ?_⟩
  refine List.forall_mem_cons.2 ⟨s_iload_n (k := 2) (by decide +kernel) rfl, ?_⟩
  refine List.forall_mem_cons.2 ⟨s_ishr (by decide +kernel), ?_⟩
  refine List.forall_mem_cons.2 ⟨s_iconst (k := 1) (by decide +kernel) (by decide +kernel), ?_⟩
  refine List.forall_mem_cons.2 ⟨s_iand (by decide +kernel), ?_⟩
  refine List.forall_mem_cons.2 ⟨s_iconst (k := 1) (by decide +kernel) (by decide +kernel), ?_⟩
  refine List.forall_mem_cons.2 ⟨s_icmp_ne (off := 7) (by decide +kernel) (by decide), ?_⟩
  refine List.forall_mem_cons.2 ⟨s_iconst (k := 1) (by decide +kernel) (by decide +kernel), ?_⟩
  refine List.forall_mem_cons.2 ⟨s_goto (off := 4) (by decide +kernel) (by decide), ?_⟩
  refine List.forall_mem_cons.2 ⟨s_iconst (k := 0) (by decide +kernel) (by decide +kernel), ?_⟩
  refine List.forall_mem_cons.2 ⟨s_ireturn (ty := .boolean) (by decide +kernel) rfl, ?_⟩
  exact fun _ h => absurd h List.not_mem_nil
def q_k142 : List (Nat × xO) := q_k142_0
theorem q_s142 (l : Launch) (s0 : State) : ∀ q ∈ q_k142, x_Sim (x_K s0) none l q_y142 q_c142 3 (some .boolean) q_w142 q.1 q.2 := q_s142_0 l s0
/-- ProofDeskModel.refuted()I -/
def q_k143_0 : List (Nat × xO) := [(0, x_lda 1 0), (1, x_st (x_push 2 (.int (0)))), (2, x_pf 5 8 0 (.int)), (5, x_st (x_push 6 (.int (0)))), (6, x_sti 7 1), (7, x_ldi 8 1), (8, x_lda 9 0), (9, x_gf 12 8 2), (12, x_st (x_icge 32 15)), (15, x_lda 16 0), (16, x_gf 19 8 5), (19, x_ldi 20 1), (20, x_ald 21 0), (21, x_st (x_ifne 26 24)), (24, x_ldi 25 1), (25, x_ri (.int)), (26, x_iinc 29 1 (1)), (29, x_st (x_goto 7)), (32, x_st (x_push 33 (.int (-1)))), (33, x_ri (.int))]
set_option maxRecDepth 100000 in
set_option maxHeartbeats 4000000 in
theorem q_s143_0 (l : Launch) (s0 : State) : ∀ q ∈ q_k143_0, x_Sim (x_K s0) none l q_y143 q_c143 2 (some .int) q_w143 q.1 q.2 := by
  unfold q_k143_0
  refine List.forall_mem_cons.2 ⟨s_aload_n (k := 0) (by decide +kernel) rfl, ?_⟩
  refine List.forall_mem_cons.2 ⟨s_iconst (k := 0) (by decide +kernel) (by decide +kernel), ?_⟩
  refine List.forall_mem_cons.2 ⟨s_putfield (C := q_n8) (T := q_T8) (N := 39) (idx := 84) (ref := "ProofDeskModel") q_t8 (by decide +kernel) rfl q_in8 q_ty8 q_nm8 (by decide) (x_up mw_667) rfl rfl (by decide +kernel), ?_⟩
  refine List.forall_mem_cons.2 ⟨s_iconst (k := 0) (by decide +kernel) (by decide +kernel), ?_⟩
  refine List.forall_mem_cons.2 ⟨s_istore_n (k := 1) (by decide +kernel) rfl (by decide), ?_⟩
  refine List.forall_mem_cons.2 ⟨s_iload_n (k := 1) (by decide +kernel) rfl, ?_⟩
  refine List.forall_mem_cons.2 ⟨s_aload_n (k := 0) (by decide +kernel) rfl, ?_⟩
  refine List.forall_mem_cons.2 ⟨s_getfield (C := q_n8) (T := q_T8) (N := 39) (idx := 150) (ref := "ProofDeskModel") (by decide +kernel) rfl q_in8 (by decide) (x_up mw_715) rfl, ?_⟩
  refine List.forall_mem_cons.2 ⟨s_icmp_ge (off := 20) (by decide +kernel) (by decide), ?_⟩
  refine List.forall_mem_cons.2 ⟨s_aload_n (k := 0) (by decide +kernel) rfl, ?_⟩
  refine List.forall_mem_cons.2 ⟨s_getfield (C := q_n8) (T := q_T8) (N := 39) (idx := 16) (ref := "ProofDeskModel") (by decide +kernel) rfl q_in8 (by decide) (x_up mw_645) rfl, ?_⟩
  refine List.forall_mem_cons.2 ⟨s_iload_n (k := 1) (by decide +kernel) rfl, ?_⟩
  refine List.forall_mem_cons.2 ⟨s_iald (by decide +kernel) rfl, ?_⟩
  refine List.forall_mem_cons.2 ⟨s_ifne (off := 5) (by decide +kernel) (by decide), ?_⟩
  refine List.forall_mem_cons.2 ⟨s_iload_n (k := 1) (by decide +kernel) rfl, ?_⟩
  refine List.forall_mem_cons.2 ⟨s_ireturn (ty := .int) (by decide +kernel) rfl, ?_⟩
  refine List.forall_mem_cons.2 ⟨s_iinc (k := 1) (by decide +kernel) (by decide +kernel) (by decide), ?_⟩
  refine List.forall_mem_cons.2 ⟨s_goto (off := -22) (by decide +kernel) (by decide), ?_⟩
  refine List.forall_mem_cons.2 ⟨s_iconst (k := -1) (by decide +kernel) (by decide +kernel), ?_⟩
  refine List.forall_mem_cons.2 ⟨s_ireturn (ty := .int) (by decide +kernel) rfl, ?_⟩
  exact fun _ h => absurd h List.not_mem_nil
def q_k143 : List (Nat × xO) := q_k143_0
theorem q_s143 (l : Launch) (s0 : State) : ∀ q ∈ q_k143, x_Sim (x_K s0) none l q_y143 q_c143 2 (some .int) q_w143 q.1 q.2 := q_s143_0 l s0
/-- ProofDeskModel.trivial(I)Z -/
def q_k144_0 : List (Nat × xO) := [(0, x_lda 1 0), (1, x_st (x_push 2 (.int (0)))), (2, x_pf 5 8 0 (.int)), (5, x_lda 6 0), (6, x_ldi 7 1), (7, x_cv 10 134 2 8), (10, x_st (x_ifne 15 13)), (13, x_st (x_push 14 (.int (0)))), (14, x_ri (.boolean)), (15, x_st (x_push 16 (.int (0)))), (16, x_sti 17 2), (17, x_lda 18 0), (18, x_ldi 19 1), (19, x_st (x_push 20 (.int (0)))), (20, x_st (x_push 21 (.int (0)))), (21, x_cv 24 110 4 8), (24, x_st (x_push 25 (.int (0)))), (25, x_sti 26 3), (26, x_ldi 27 3), (27, x_lda 28 0), (28, x_gf 31 8 5), (31, x_ldi 32 1), (32, x_ald 33 0), (33, x_st (x_icge 225 36)), (36, x_lda 37 0), (37, x_gf 40 8 4), (40, x_st (x_push 42 (.int (7)))), (42, x_ldi 43 1), (43, x_st (x_bin 44 (fun a b => a * b))), (44, x_ldi 45 3), (45, x_st (x_bin 46 (fun a b => a + b))), (46, x_ald 47 0), (47, x_sti 49 4), (49, x_lda 50 0), (50, x_gf 53 8 29), (53, x_ldi 55 4), (55, x_ald 56 0), (56, x_st (x_push 58 (.int (99)))), (58, x_st (x_icne 127 61)), (61, x_lda 62 0)]
set_option maxRecDepth 100000 in
set_option maxHeartbeats 4000000 in
theorem q_s144_0 (l : Launch) (s0 : State) : ∀ q ∈ q_k144_0, x_Sim (x_K s0) none l q_y144 q_c144 7 (some .boolean) q_w144 q.1 q.2 := by
  unfold q_k144_0
  refine List.forall_mem_cons.2 ⟨s_aload_n (k := 0) (by decide +kernel) rfl, ?_⟩
  refine List.forall_mem_cons.2 ⟨s_iconst (k := 0) (by decide +kernel) (by decide +kernel), ?_⟩
  refine List.forall_mem_cons.2 ⟨s_putfield (C := q_n8) (T := q_T8) (N := 39) (idx := 84) (ref := "ProofDeskModel") q_t8 (by decide +kernel) rfl q_in8 q_ty8 q_nm8 (by decide) (x_up mw_667) rfl rfl (by decide +kernel), ?_⟩
  refine List.forall_mem_cons.2 ⟨s_aload_n (k := 0) (by decide +kernel) rfl, ?_⟩
  refine List.forall_mem_cons.2 ⟨s_iload_n (k := 1) (by decide +kernel) rfl, ?_⟩
  refine List.forall_mem_cons.2 ⟨s_invokevirtual (idx := 248) (M := 134) (k := 1) (ci := 8) (C := q_n8) (T := q_T8) (N := 39) (ym := q_y134) (wm := q_w134) (by decide +kernel) rfl rfl rfl (x_gdV mw_823 mw_824 mw_825 mw_675 mw_822) rfl (by decide +kernel) (by decide), ?_⟩
  refine List.forall_mem_cons.2 ⟨s_ifne (off := 5) (by decide +kernel) (by decide), ?_⟩
  refine List.forall_mem_cons.2 ⟨s_iconst (k := 0) (by decide +kernel) (by decide +kernel), ?_⟩
  refine List.forall_mem_cons.2 ⟨s_ireturn (ty := .boolean) (by decide +kernel) rfl, ?_⟩
  refine List.forall_mem_cons.2 ⟨s_iconst (k := 0) (by decide +kernel) (by decide +kernel), ?_⟩
  refine List.forall_mem_cons.2 ⟨s_istore_n (k := 2) (by decide +kernel) rfl (by decide), ?_⟩
  refine List.forall_mem_cons.2 ⟨s_aload_n (k := 0) (by decide +kernel) rfl, ?_⟩
  refine List.forall_mem_cons.2 ⟨s_iload_n (k := 1) (by decide +kernel) rfl, ?_⟩
  refine List.forall_mem_cons.2 ⟨s_iconst (k := 0) (by decide +kernel) (by decide +kernel), ?_⟩
  refine List.forall_mem_cons.2 ⟨s_iconst (k := 0) (by decide +kernel) (by decide +kernel), ?_⟩
  refine List.forall_mem_cons.2 ⟨s_invokevirtual (idx := 194) (M := 110) (k := 3) (ci := 8) (C := q_n8) (T := q_T8) (N := 39) (ym := q_y110) (wm := q_w110) (by decide +kernel) rfl rfl rfl (x_gdV mw_762 mw_763 mw_764 mw_675 mw_761) rfl (by decide +kernel) (by decide), ?_⟩
  refine List.forall_mem_cons.2 ⟨s_iconst (k := 0) (by decide +kernel) (by decide +kernel), ?_⟩
  refine List.forall_mem_cons.2 ⟨s_istore_n (k := 3) (by decide +kernel) rfl (by decide), ?_⟩
  refine List.forall_mem_cons.2 ⟨s_iload_n (k := 3) (by decide +kernel) rfl, ?_⟩
  refine List.forall_mem_cons.2 ⟨s_aload_n (k := 0) (by decide +kernel) rfl, ?_⟩
  refine List.forall_mem_cons.2 ⟨s_getfield (C := q_n8) (T := q_T8) (N := 39) (idx := 16) (ref := "ProofDeskModel") (by decide +kernel) rfl q_in8 (by decide) (x_up mw_645) rfl, ?_⟩
  refine List.forall_mem_cons.2 ⟨s_iload_n (k := 1) (by decide +kernel) rfl, ?_⟩
  refine List.forall_mem_cons.2 ⟨s_iald (by decide +kernel) rfl, ?_⟩
  refine List.forall_mem_cons.2 ⟨s_icmp_ge (off := 192) (by decide +kernel) (by decide), ?_⟩
  refine List.forall_mem_cons.2 ⟨s_aload_n (k := 0) (by decide +kernel) rfl, ?_⟩
  refine List.forall_mem_cons.2 ⟨s_getfield (C := q_n8) (T := q_T8) (N := 39) (idx := 13) (ref := "ProofDeskModel") (by decide +kernel) rfl q_in8 (by decide) (x_up mw_644) rfl, ?_⟩
  refine List.forall_mem_cons.2 ⟨s_bipush (k := 7) (by decide +kernel) (by decide +kernel), ?_⟩
  refine List.forall_mem_cons.2 ⟨s_iload_n (k := 1) (by decide +kernel) rfl, ?_⟩
  refine List.forall_mem_cons.2 ⟨s_imul (by decide +kernel), ?_⟩
  refine List.forall_mem_cons.2 ⟨s_iload_n (k := 3) (by decide +kernel) rfl, ?_⟩
  refine List.forall_mem_cons.2 ⟨s_iadd (by decide +kernel), ?_⟩
  refine List.forall_mem_cons.2 ⟨s_iald (by decide +kernel) rfl, ?_⟩
  refine List.forall_mem_cons.2 ⟨s_istore (by decide +kernel) (by decide), ?_⟩
  refine List.forall_mem_cons.2 ⟨s_aload_n (k := 0) (by decide +kernel) rfl, ?_⟩
  refine List.forall_mem_cons.2 ⟨s_getfield (C := q_n8) (T := q_T8) (N := 39) (idx := 63) (ref := "ProofDeskModel") (by decide +kernel) rfl q_in8 (by decide) (x_up mw_660) rfl, ?_⟩
  refine List.forall_mem_cons.2 ⟨s_iload (by decide +kernel), ?_⟩
  refine List.forall_mem_cons.2 ⟨s_iald (by decide +kernel) rfl, ?_⟩
  refine List.forall_mem_cons.2 ⟨s_bipush (k := 99) (by decide +kernel) (by decide +kernel), ?_⟩
  refine List.forall_mem_cons.2 ⟨s_icmp_ne (off := 69) (by decide +kernel) (by decide), ?_⟩
  refine List.forall_mem_cons.2 ⟨s_aload_n (k := 0) (by decide +kernel) rfl, ?_⟩
  exact fun _ h => absurd h List.not_mem_nil
def q_k144_1 : List (Nat × xO) := [(62, x_gf 65 8 8), (65, x_st (x_push 67 (.int (7)))), (67, x_ldi 68 1), (68, x_st (x_bin 69 (fun a b => a * b))), (69, x_ldi 70 3), (70, x_st (x_bin 71 (fun a b => a + b))), (71, x_ald 72 1), (72, x_st (x_ifne 127 75)), (75, x_lda 76 0), (76, x_ldi 78 4), (78, x_st (x_push 79 (.int (1)))), (79, x_st (x_bin 80 (fun a b => a + b))), (80, x_cv 83 109 2 8), (83, x_sti 85 5), (85, x_ldi 86 2), (86, x_st (x_ifne 121 89)), (89, x_lda 90 0), (90, x_ldi 92 5), (92, x_cv 95 109 2 8), (95, x_ldi 97 5), (97, x_st (x_bin 98 (fun a b => a - b))), (98, x_ldi 100 5), (100, x_ldi 102 4), (102, x_st (x_bin 103 (fun a b => a - b))), (103, x_st (x_push 104 (.int (1)))), (104, x_st (x_bin 105 (fun a b => a - b))), (105, x_st (x_icne 125 108)), (108, x_lda 109 0), (109, x_ldi 111 4), (111, x_st (x_push 112 (.int (1)))), (112, x_st (x_bin 113 (fun a b => a + b))), (113, x_ldi 115 5), (115, x_cv 118 129 3 8), (118, x_st (x_ifeq 125 121)), (121, x_st (x_push 122 (.int (1)))), (122, x_st (x_goto 126)), (125, x_st (x_push 126 (.int (0)))), (126, x_sti 127 2), (127, x_st (x_push 128 (.int (0)))), (128, x_sti 130 5)]
set_option maxRecDepth 100000 in
set_option maxHeartbeats 4000000 in
theorem q_s144_1 (l : Launch) (s0 : State) : ∀ q ∈ q_k144_1, x_Sim (x_K s0) none l q_y144 q_c144 7 (some .boolean) q_w144 q.1 q.2 := by
  unfold q_k144_1
  refine List.forall_mem_cons.2 ⟨s_getfield (C := q_n8) (T := q_T8) (N := 39) (idx := 25) (ref := "ProofDeskModel") (by decide +kernel) rfl q_in8 (by decide) (x_up mw_648) rfl, ?_⟩
  refine List.forall_mem_cons.2 ⟨s_bipush (k := 7) (by decide +kernel) (by decide +kernel), ?_⟩
  refine List.forall_mem_cons.2 ⟨s_iload_n (k := 1) (by decide +kernel) rfl, ?_⟩
  refine List.forall_mem_cons.2 ⟨s_imul (by decide +kernel), ?_⟩
  refine List.forall_mem_cons.2 ⟨s_iload_n (k := 3) (by decide +kernel) rfl, ?_⟩
  refine List.forall_mem_cons.2 ⟨s_iadd (by decide +kernel), ?_⟩
  refine List.forall_mem_cons.2 ⟨s_zald (by decide +kernel) rfl, ?_⟩
  refine List.forall_mem_cons.2 ⟨s_ifne (off := 55) (by decide +kernel) (by decide), ?_⟩
  refine List.forall_mem_cons.2 ⟨s_aload_n (k := 0) (by decide +kernel) rfl, ?_⟩
  refine List.forall_mem_cons.2 ⟨s_iload (by decide +kernel), ?_⟩
  refine List.forall_mem_cons.2 ⟨s_iconst (k := 1) (by decide +kernel) (by decide +kernel), ?_⟩
  refine List.forall_mem_cons.2 ⟨s_iadd (by decide +kernel), ?_⟩
  refine List.forall_mem_cons.2 ⟨s_invokevirtual (idx := 168) (M := 109) (k := 1) (ci := 8) (C := q_n8) (T := q_T8) (N := 39) (ym := q_y109) (wm := q_w109) (by decide +kernel) rfl rfl rfl (x_gdV mw_733 mw_734 mw_735 mw_675 mw_732) rfl (by decide +kernel) (by decide), ?_⟩
  refine List.forall_mem_cons.2 ⟨s_istore (by decide +kernel) (by decide), ?_⟩
  refine List.forall_mem_cons.2 ⟨s_iload_n (k := 2) (by decide +kernel) rfl, ?_⟩
  refine List.forall_mem_cons.2 ⟨s_ifne (off := 35) (by decide +kernel) (by decide), ?_⟩
  refine List.forall_mem_cons.2 ⟨s_aload_n (k := 0) (by decide +kernel) rfl, ?_⟩
  refine List.forall_mem_cons.2 ⟨s_iload (by decide +kernel), ?_⟩
  refine List.forall_mem_cons.2 ⟨s_invokevirtual (idx := 168) (M := 109) (k := 1) (ci := 8) (C := q_n8) (T := q_T8) (N := 39) (ym := q_y109) (wm := q_w109) (by decide +kernel) rfl rfl rfl (x_gdV mw_733 mw_734 mw_735 mw_675 mw_732) rfl (by decide +kernel) (by decide), ?_⟩
  refine List.forall_mem_cons.2 ⟨s_iload (by decide +kernel), ?_⟩
  refine List.forall_mem_cons.2 ⟨s_isub (by decide +kernel), ?_⟩
  refine List.forall_mem_cons.2 ⟨s_iload (by decide +kernel), ?_⟩
  refine List.forall_mem_cons.2 ⟨s_iload (by decide +kernel), ?_⟩
  refine List.forall_mem_cons.2 ⟨s_isub (by decide +kernel), ?_⟩
  refine List.forall_mem_cons.2 ⟨s_iconst (k := 1) (by decide +kernel) (by decide +kernel), ?_⟩
  refine List.forall_mem_cons.2 ⟨s_isub (by decide +kernel), ?_⟩
  refine List.forall_mem_cons.2 ⟨s_icmp_ne (off := 20) (by decide +kernel) (by decide), ?_⟩
  refine List.forall_mem_cons.2 ⟨s_aload_n (k := 0) (by decide +kernel) rfl, ?_⟩
  refine List.forall_mem_cons.2 ⟨s_iload (by decide +kernel), ?_⟩
  refine List.forall_mem_cons.2 ⟨s_iconst (k := 1) (by decide +kernel) (by decide +kernel), ?_⟩
  refine List.forall_mem_cons.2 ⟨s_iadd (by decide +kernel), ?_⟩
  refine List.forall_mem_cons.2 ⟨s_iload (by decide +kernel), ?_⟩
  refine List.forall_mem_cons.2 ⟨s_invokevirtual (idx := 239) (M := 129) (k := 2) (ci := 8) (C := q_n8) (T := q_T8) (N := 39) (ym := q_y129) (wm := q_w129) (by decide +kernel) rfl rfl rfl (x_gdV mw_811 mw_812 mw_813 mw_675 mw_810) rfl (by decide +kernel) (by decide), ?_⟩
  refine List.forall_mem_cons.2 ⟨s_ifeq (off := 7) (by decide +kernel) (by decide), ?_⟩
  refine List.forall_mem_cons.2 ⟨s_iconst (k := 1) (by decide +kernel) (by decide +kernel), ?_⟩
  refine List.forall_mem_cons.2 ⟨s_goto (off := 4) (by decide +kernel) (by decide), ?_⟩
  refine List.forall_mem_cons.2 ⟨s_iconst (k := 0) (by decide +kernel) (by decide +kernel), ?_⟩
  refine List.forall_mem_cons.2 ⟨s_istore_n (k := 2) (by decide +kernel) rfl (by decide), ?_⟩
  refine List.forall_mem_cons.2 ⟨s_iconst (k := 0) (by decide +kernel) (by decide +kernel), ?_⟩
  refine List.forall_mem_cons.2 ⟨s_istore (by decide +kernel) (by decide), ?_⟩
  exact fun _ h => absurd h List.not_mem_nil
def q_k144_2 : List (Nat × xO) := [(130, x_ldi 132 5), (132, x_ldi 133 3), (133, x_st (x_icge 219 136)), (136, x_lda 137 0), (137, x_gf 140 8 4), (140, x_st (x_push 142 (.int (7)))), (142, x_ldi 143 1), (143, x_st (x_bin 144 (fun a b => a * b))), (144, x_ldi 146 5), (146, x_st (x_bin 147 (fun a b => a + b))), (147, x_ald 148 0), (148, x_sti 150 6), (150, x_ldi 151 2), (151, x_st (x_ifne 207 154)), (154, x_lda 155 0), (155, x_gf 158 8 8), (158, x_st (x_push 160 (.int (7)))), (160, x_ldi 161 1), (161, x_st (x_bin 162 (fun a b => a * b))), (162, x_ldi 164 5), (164, x_st (x_bin 165 (fun a b => a + b))), (165, x_ald 166 1), (166, x_lda 167 0), (167, x_gf 170 8 8), (170, x_st (x_push 172 (.int (7)))), (172, x_ldi 173 1), (173, x_st (x_bin 174 (fun a b => a * b))), (174, x_ldi 175 3), (175, x_st (x_bin 176 (fun a b => a + b))), (176, x_ald 177 1), (177, x_st (x_iceq 211 180)), (180, x_lda 181 0), (181, x_ldi 182 1), (182, x_ldi 184 5), (184, x_cv 187 126 3 8), (187, x_lda 188 0), (188, x_ldi 189 1), (189, x_ldi 190 3), (190, x_cv 193 126 3 8), (193, x_st (x_icne 211 196))]
set_option maxRecDepth 100000 in
set_option maxHeartbeats 4000000 in
theorem q_s144_2 (l : Launch) (s0 : State) : ∀ q ∈ q_k144_2, x_Sim (x_K s0) none l q_y144 q_c144 7 (some .boolean) q_w144 q.1 q.2 := by
  unfold q_k144_2
  refine List.forall_mem_cons.2 ⟨s_iload (by decide +kernel), ?_⟩
  refine List.forall_mem_cons.2 ⟨s_iload_n (k := 3) (by decide +kernel) rfl, ?_⟩
  refine List.forall_mem_cons.2 ⟨s_icmp_ge (off := 86) (by decide +kernel) (by decide), ?_⟩
  refine List.forall_mem_cons.2 ⟨s_aload_n (k := 0) (by decide +kernel) rfl, ?_⟩
  refine List.forall_mem_cons.2 ⟨s_getfield (C := q_n8) (T := q_T8) (N := 39) (idx := 13) (ref := "ProofDeskModel") (by decide +kernel) rfl q_in8 (by decide) (x_up mw_644) rfl, ?_⟩
  refine List.forall_mem_cons.2 ⟨s_bipush (k := 7) (by decide +kernel) (by decide +kernel), ?_⟩
  refine List.forall_mem_cons.2 ⟨s_iload_n (k := 1) (by decide +kernel) rfl, ?_⟩
  refine List.forall_mem_cons.2 ⟨s_imul (by decide +kernel), ?_⟩
  refine List.forall_mem_cons.2 ⟨s_iload (by decide +kernel), ?_⟩
  refine List.forall_mem_cons.2 ⟨s_iadd (by decide +kernel), ?_⟩
  refine List.forall_mem_cons.2 ⟨s_iald (by decide +kernel) rfl, ?_⟩
  refine List.forall_mem_cons.2 ⟨s_istore (by decide +kernel) (by decide), ?_⟩
  refine List.forall_mem_cons.2 ⟨s_iload_n (k := 2) (by decide +kernel) rfl, ?_⟩
  refine List.forall_mem_cons.2 ⟨s_ifne (off := 56) (by decide +kernel) (by decide), ?_⟩
  refine List.forall_mem_cons.2 ⟨s_aload_n (k := 0) (by decide +kernel) rfl, ?_⟩
  refine List.forall_mem_cons.2 ⟨s_getfield (C := q_n8) (T := q_T8) (N := 39) (idx := 25) (ref := "ProofDeskModel") (by decide +kernel) rfl q_in8 (by decide) (x_up mw_648) rfl, ?_⟩
  refine List.forall_mem_cons.2 ⟨s_bipush (k := 7) (by decide +kernel) (by decide +kernel), ?_⟩
  refine List.forall_mem_cons.2 ⟨s_iload_n (k := 1) (by decide +kernel) rfl, ?_⟩
  refine List.forall_mem_cons.2 ⟨s_imul (by decide +kernel), ?_⟩
  refine List.forall_mem_cons.2 ⟨s_iload (by decide +kernel), ?_⟩
  refine List.forall_mem_cons.2 ⟨s_iadd (by decide +kernel), ?_⟩
  refine List.forall_mem_cons.2 ⟨s_zald (by decide +kernel) rfl, ?_⟩
  refine List.forall_mem_cons.2 ⟨s_aload_n (k := 0) (by decide +kernel) rfl, ?_⟩
  refine List.forall_mem_cons.2 ⟨s_getfield (C := q_n8) (T := q_T8) (N := 39) (idx := 25) (ref := "ProofDeskModel") (by decide +kernel) rfl q_in8 (by decide) (x_up mw_648) rfl, ?_⟩
  refine List.forall_mem_cons.2 ⟨s_bipush (k := 7) (by decide +kernel) (by decide +kernel), ?_⟩
  refine List.forall_mem_cons.2 ⟨s_iload_n (k := 1) (by decide +kernel) rfl, ?_⟩
  refine List.forall_mem_cons.2 ⟨s_imul (by decide +kernel), ?_⟩
  refine List.forall_mem_cons.2 ⟨s_iload_n (k := 3) (by decide +kernel) rfl, ?_⟩
  refine List.forall_mem_cons.2 ⟨s_iadd (by decide +kernel), ?_⟩
  refine List.forall_mem_cons.2 ⟨s_zald (by decide +kernel) rfl, ?_⟩
  refine List.forall_mem_cons.2 ⟨s_icmp_eq (off := 34) (by decide +kernel) (by decide), ?_⟩
  refine List.forall_mem_cons.2 ⟨s_aload_n (k := 0) (by decide +kernel) rfl, ?_⟩
  refine List.forall_mem_cons.2 ⟨s_iload_n (k := 1) (by decide +kernel) rfl, ?_⟩
  refine List.forall_mem_cons.2 ⟨s_iload (by decide +kernel), ?_⟩
  refine List.forall_mem_cons.2 ⟨s_invokevirtual (idx := 226) (M := 126) (k := 2) (ci := 8) (C := q_n8) (T := q_T8) (N := 39) (ym := q_y126) (wm := q_w126) (by decide +kernel) rfl rfl rfl (x_gdV mw_795 mw_796 mw_797 mw_675 mw_794) rfl (by decide +kernel) (by decide), ?_⟩
  refine List.forall_mem_cons.2 ⟨s_aload_n (k := 0) (by decide +kernel) rfl, ?_⟩
  refine List.forall_mem_cons.2 ⟨s_iload_n (k := 1) (by decide +kernel) rfl, ?_⟩
  refine List.forall_mem_cons.2 ⟨s_iload_n (k := 3) (by decide +kernel) rfl, ?_⟩
  refine List.forall_mem_cons.2 ⟨s_invokevirtual (idx := 226) (M := 126) (k := 2) (ci := 8) (C := q_n8) (T := q_T8) (N := 39) (ym := q_y126) (wm := q_w126) (by decide +kernel) rfl rfl rfl (x_gdV mw_795 mw_796 mw_797 mw_675 mw_794) rfl (by decide +kernel) (by decide), ?_⟩
  refine List.forall_mem_cons.2 ⟨s_icmp_ne (off := 18) (by decide +kernel) (by decide), ?_⟩
  exact fun _ h => absurd h List.not_mem_nil
def q_k144_3 : List (Nat × xO) := [(196, x_lda 197 0), (197, x_ldi 199 4), (199, x_ldi 201 6), (201, x_cv 204 129 3 8), (204, x_st (x_ifeq 211 207)), (207, x_st (x_push 208 (.int (1)))), (208, x_st (x_goto 212)), (211, x_st (x_push 212 (.int (0)))), (212, x_sti 213 2), (213, x_iinc 216 5 (1)), (216, x_st (x_goto 130)), (219, x_iinc 222 3 (1)), (222, x_st (x_goto 26)), (225, x_ldi 226 2), (226, x_ri (.boolean))]
set_option maxRecDepth 100000 in
set_option maxHeartbeats 4000000 in
theorem q_s144_3 (l : Launch) (s0 : State) : ∀ q ∈ q_k144_3, x_Sim (x_K s0) none l q_y144 q_c144 7 (some .boolean) q_w144 q.1 q.2 := by
  unfold q_k144_3
  refine List.forall_mem_cons.2 ⟨s_aload_n (k := 0) (by decide +kernel) rfl, ?_⟩
  refine List.forall_mem_cons.2 ⟨s_iload (by decide +kernel), ?_⟩
  refine List.forall_mem_cons.2 ⟨s_iload (by decide +kernel), ?_⟩
  refine List.forall_mem_cons.2 ⟨s_invokevirtual (idx := 239) (M := 129) (k := 2) (ci := 8) (C := q_n8) (T := q_T8) (N := 39) (ym := q_y129) (wm := q_w129) (by decide +kernel) rfl rfl rfl (x_gdV mw_811 mw_812 mw_813 mw_675 mw_810) rfl (by decide +kernel) (by decide), ?_⟩
  refine List.forall_mem_cons.2 ⟨s_ifeq (off := 7) (by decide +kernel) (by decide), ?_⟩
  refine List.forall_mem_cons.2 ⟨s_iconst (k := 1) (by decide +kernel) (by decide +kernel), ?_⟩
  refine List.forall_mem_cons.2 ⟨s_goto (off := 4) (by decide +kernel) (by decide), ?_⟩
  refine List.forall_mem_cons.2 ⟨s_iconst (k := 0) (by decide +kernel) (by decide +kernel), ?_⟩
  refine List.forall_mem_cons.2 ⟨s_istore_n (k := 2) (by decide +kernel) rfl (by decide), ?_⟩
  refine List.forall_mem_cons.2 ⟨s_iinc (k := 1) (by decide +kernel) (by decide +kernel) (by decide), ?_⟩
  refine List.forall_mem_cons.2 ⟨s_goto (off := -86) (by decide +kernel) (by decide), ?_⟩
  refine List.forall_mem_cons.2 ⟨s_iinc (k := 1) (by decide +kernel) (by decide +kernel) (by decide), ?_⟩
  refine List.forall_mem_cons.2 ⟨s_goto (off := -196) (by decide +kernel) (by decide), ?_⟩
  refine List.forall_mem_cons.2 ⟨s_iload_n (k := 2) (by decide +kernel) rfl, ?_⟩
  refine List.forall_mem_cons.2 ⟨s_ireturn (ty := .boolean) (by decide +kernel) rfl, ?_⟩
  exact fun _ h => absurd h List.not_mem_nil
def q_k144 : List (Nat × xO) := q_k144_0 ++ q_k144_1 ++ q_k144_2 ++ q_k144_3
theorem q_s144 (l : Launch) (s0 : State) : ∀ q ∈ q_k144, x_Sim (x_K s0) none l q_y144 q_c144 7 (some .boolean) q_w144 q.1 q.2 := by
  intro q hq
  simp only [q_k144, List.mem_append] at hq
  rcases hq with ((h0 | h1) | h2) | h3
  · exact q_s144_0 l s0 q h0
  · exact q_s144_1 l s0 q h1
  · exact q_s144_2 l s0 q h2
  · exact q_s144_3 l s0 q h3
/-- ProofDeskModel.draft()I -/
def q_k145_0 : List (Nat × xO) := [(0, x_lda 1 0), (1, x_st (x_push 2 (.int (0)))), (2, x_pf 5 8 0 (.int)), (5, x_lda 6 0), (6, x_gf 9 8 13), (9, x_ri (.int))]
set_option maxRecDepth 100000 in
set_option maxHeartbeats 4000000 in
theorem q_s145_0 (l : Launch) (s0 : State) : ∀ q ∈ q_k145_0, x_Sim (x_K s0) none l q_y145 q_c145 1 (some .int) q_w145 q.1 q.2 := by
  unfold q_k145_0
  refine List.forall_mem_cons.2 ⟨s_aload_n (k := 0) (by decide +kernel) rfl, ?_⟩
  refine List.forall_mem_cons.2 ⟨s_iconst (k := 0) (by decide +kernel) (by decide +kernel), ?_⟩
  refine List.forall_mem_cons.2 ⟨s_putfield (C := q_n8) (T := q_T8) (N := 39) (idx := 84) (ref := "ProofDeskModel") q_t8 (by decide +kernel) rfl q_in8 q_ty8 q_nm8 (by decide) (x_up mw_667) rfl rfl (by decide +kernel), ?_⟩
  refine List.forall_mem_cons.2 ⟨s_aload_n (k := 0) (by decide +kernel) rfl, ?_⟩
  refine List.forall_mem_cons.2 ⟨s_getfield (C := q_n8) (T := q_T8) (N := 39) (idx := 91) (ref := "ProofDeskModel") (by decide +kernel) rfl q_in8 (by decide) (x_up mw_669) rfl, ?_⟩
  refine List.forall_mem_cons.2 ⟨s_ireturn (ty := .int) (by decide +kernel) rfl, ?_⟩
  exact fun _ h => absurd h List.not_mem_nil
def q_k145 : List (Nat × xO) := q_k145_0
theorem q_s145 (l : Launch) (s0 : State) : ∀ q ∈ q_k145, x_Sim (x_K s0) none l q_y145 q_c145 1 (some .int) q_w145 q.1 q.2 := q_s145_0 l s0
