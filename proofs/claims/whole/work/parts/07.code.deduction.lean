/-- ProofDesk$Deduction.<init>()V -/
def q_k58_0 : List (Nat × xO) := [(0, x_lda 1 0), (1, x_st (x_oi 4)), (4, x_lda 5 0), (5, x_nw_ 8 4 [.null, .null, .null, .int 0, .int 0, .int 0]), (8, x_st (x_dup 9)), (9, x_cs 12 8 1), (12, x_pf 15 2 0 (.object "ProofDesk$Form")), (15, x_lda 16 0), (16, x_nw_ 19 5 [.null, .null, .null, .null, .null, .null, .null, .int 0, .int 0]), (19, x_st (x_dup 20)), (20, x_cs 23 39 1), (23, x_pf 26 2 1 (.object "ProofDesk$Graph")), (26, x_rv)]
set_option maxRecDepth 100000 in
set_option maxHeartbeats 4000000 in
theorem q_s58_0 (l : Launch) (s0 : State) : ∀ q ∈ q_k58_0, x_Sim (x_K s0) none l q_y58 q_c58 1 none q_w58 q.1 q.2 := by
  unfold q_k58_0
  refine List.forall_mem_cons.2 ⟨s_aload_n (k := 0) (by decide +kernel) rfl, ?_⟩
  refine List.forall_mem_cons.2 ⟨s_objInit (idx := 3) (by decide +kernel) (x_up mw_393) (x_up mw_100) (x_up mw_obj), ?_⟩
  refine List.forall_mem_cons.2 ⟨s_aload_n (k := 0) (by decide +kernel) rfl, ?_⟩
  refine List.forall_mem_cons.2 ⟨s_new (C := q_n4) (T := q_T4) (N := 6) (idx := 9) q_t4 (by decide +kernel) rfl q_in4 q_ty4 (x_up mw_394) (x_up mw_395) (x_up mw_203) rfl (by decide +kernel) rfl, ?_⟩
  refine List.forall_mem_cons.2 ⟨s_dup (by decide +kernel), ?_⟩
  refine List.forall_mem_cons.2 ⟨s_invokespecial (idx := 11) (M := 8) (k := 0) (ym := q_y8) (wm := q_w8) (by decide +kernel) rfl rfl (x_gd1 mw_396) (x_up mw_397) (x_up mw_398) (x_up mw_203) rfl rfl (by decide +kernel) (by decide), ?_⟩
  refine List.forall_mem_cons.2 ⟨s_putfieldF (C := q_n2) (T := q_T2) (N := 8) (idx := 12) q_t2 (by decide +kernel) rfl q_in2 q_ty2 q_nm2 (by decide) (x_up mw_399) rfl rfl (by decide +kernel) rfl, ?_⟩
  refine List.forall_mem_cons.2 ⟨s_aload_n (k := 0) (by decide +kernel) rfl, ?_⟩
  refine List.forall_mem_cons.2 ⟨s_new (C := q_n5) (T := q_T5) (N := 9) (idx := 18) q_t5 (by decide +kernel) rfl q_in5 q_ty5 (x_up mw_400) (x_up mw_401) (x_up mw_321) rfl (by decide +kernel) rfl, ?_⟩
  refine List.forall_mem_cons.2 ⟨s_dup (by decide +kernel), ?_⟩
  refine List.forall_mem_cons.2 ⟨s_invokespecial (idx := 20) (M := 39) (k := 0) (ym := q_y39) (wm := q_w39) (by decide +kernel) rfl rfl (x_gd1 mw_402) (x_up mw_403) (x_up mw_404) (x_up mw_321) rfl rfl (by decide +kernel) (by decide), ?_⟩
  refine List.forall_mem_cons.2 ⟨s_putfieldF (C := q_n2) (T := q_T2) (N := 8) (idx := 21) q_t2 (by decide +kernel) rfl q_in2 q_ty2 q_nm2 (by decide) (x_up mw_405) rfl rfl (by decide +kernel) rfl, ?_⟩
  refine List.forall_mem_cons.2 ⟨s_return (by decide +kernel) rfl, ?_⟩
  exact fun _ h => absurd h List.not_mem_nil
def q_k58 : List (Nat × xO) := q_k58_0
theorem q_s58 (l : Launch) (s0 : State) : ∀ q ∈ q_k58, x_Sim (x_K s0) none l q_y58 q_c58 1 none q_w58 q.1 q.2 := q_s58_0 l s0
/-- ProofDesk$Deduction.apply(ILProofDesk$Form;ILProofDesk$Form;II)I -/
def q_k59_0 : List (Nat × xO) := [(0, x_ldi 1 1), (1, x_cl_ 4 85 1), (4, x_sti 6 7), (6, x_lda 7 0), (7, x_gf 10 2 1), (10, x_lda 11 2), (11, x_cv 14 40 2 5), (14, x_ldi 16 7), (16, x_st (x_ifeq 30 19)), (19, x_lda 20 0), (20, x_gf 23 2 1), (23, x_lda 25 4), (25, x_st (x_push 27 (.int (26)))), (27, x_cv 30 41 3 5), (30, x_lda 31 0), (31, x_gf 34 2 1), (34, x_cv 37 42 1 5), (37, x_lda 38 0), (38, x_ldi 39 1), (39, x_lda 40 2), (40, x_ldi 41 3), (41, x_lda 43 4), (43, x_ldi 45 5), (45, x_ldi 47 6), (47, x_cv 50 60 7 2), (50, x_st (x_ifne 56 53)), (53, x_st (x_push 55 (.int (-5)))), (55, x_ri (.int)), (56, x_lda 57 0), (57, x_gf 60 2 1), (60, x_lda 61 0), (61, x_gf 64 2 2), (64, x_lda 65 0), (65, x_gf 68 2 3), (68, x_cv 71 44 3 5), (71, x_st (x_ifne 77 74)), (74, x_st (x_push 76 (.int (-6)))), (76, x_ri (.int)), (77, x_lda 78 0), (78, x_gf 81 2 0)]
set_option maxRecDepth 100000 in
set_option maxHeartbeats 4000000 in
theorem q_s59_0 (l : Launch) (s0 : State) : ∀ q ∈ q_k59_0, x_Sim (x_K s0) none l q_y59 q_c59 9 (some .int) q_w59 q.1 q.2 := by
  unfold q_k59_0
  refine List.forall_mem_cons.2 ⟨s_iload_n (k := 1) (by decide +kernel) rfl, ?_⟩
  refine List.forall_mem_cons.2 ⟨s_invokestaticN (idx := 25) (M := 85) (ym := q_y85) (wm := q_w85) (by decide +kernel) rfl rfl (x_gd1 mw_406) x_nw3 (x_up mw_407) (x_up mw_408) rfl (by decide +kernel) (by decide), ?_⟩
  refine List.forall_mem_cons.2 ⟨s_istore (by decide +kernel) (by decide), ?_⟩
  refine List.forall_mem_cons.2 ⟨s_aload_n (k := 0) (by decide +kernel) rfl, ?_⟩
  refine List.forall_mem_cons.2 ⟨s_getfield (C := q_n2) (T := q_T2) (N := 8) (idx := 21) (ref := "ProofDesk$Deduction") (by decide +kernel) rfl q_in2 (by decide) (x_up mw_405) rfl, ?_⟩
  refine List.forall_mem_cons.2 ⟨s_aload_n (k := 2) (by decide +kernel) rfl, ?_⟩
  refine List.forall_mem_cons.2 ⟨s_invokevirtual (idx := 29) (M := 40) (k := 1) (ci := 5) (C := q_n5) (T := q_T5) (N := 9) (ym := q_y40) (wm := q_w40) (by decide +kernel) rfl rfl rfl (x_gdV mw_410 mw_411 mw_412 mw_321 mw_409) rfl (by decide +kernel) (by decide), ?_⟩
  refine List.forall_mem_cons.2 ⟨s_iload (by decide +kernel), ?_⟩
  refine List.forall_mem_cons.2 ⟨s_ifeq (off := 14) (by decide +kernel) (by decide), ?_⟩
  refine List.forall_mem_cons.2 ⟨s_aload_n (k := 0) (by decide +kernel) rfl, ?_⟩
  refine List.forall_mem_cons.2 ⟨s_getfield (C := q_n2) (T := q_T2) (N := 8) (idx := 21) (ref := "ProofDesk$Deduction") (by decide +kernel) rfl q_in2 (by decide) (x_up mw_405) rfl, ?_⟩
  refine List.forall_mem_cons.2 ⟨s_aload (by decide +kernel), ?_⟩
  refine List.forall_mem_cons.2 ⟨s_bipush (k := 26) (by decide +kernel) (by decide +kernel), ?_⟩
  refine List.forall_mem_cons.2 ⟨s_invokevirtual (idx := 33) (M := 41) (k := 2) (ci := 5) (C := q_n5) (T := q_T5) (N := 9) (ym := q_y41) (wm := q_w41) (by decide +kernel) rfl rfl rfl (x_gdV mw_413 mw_319 mw_320 mw_321 mw_317) rfl (by decide +kernel) (by decide), ?_⟩
  refine List.forall_mem_cons.2 ⟨s_aload_n (k := 0) (by decide +kernel) rfl, ?_⟩
  refine List.forall_mem_cons.2 ⟨s_getfield (C := q_n2) (T := q_T2) (N := 8) (idx := 21) (ref := "ProofDesk$Deduction") (by decide +kernel) rfl q_in2 (by decide) (x_up mw_405) rfl, ?_⟩
  refine List.forall_mem_cons.2 ⟨s_invokevirtual (idx := 37) (M := 42) (k := 0) (ci := 5) (C := q_n5) (T := q_T5) (N := 9) (ym := q_y42) (wm := q_w42) (by decide +kernel) rfl rfl rfl (x_gdV mw_415 mw_416 mw_417 mw_321 mw_414) rfl (by decide +kernel) (by decide), ?_⟩
  refine List.forall_mem_cons.2 ⟨s_aload_n (k := 0) (by decide +kernel) rfl, ?_⟩
  refine List.forall_mem_cons.2 ⟨s_iload_n (k := 1) (by decide +kernel) rfl, ?_⟩
  refine List.forall_mem_cons.2 ⟨s_aload_n (k := 2) (by decide +kernel) rfl, ?_⟩
  refine List.forall_mem_cons.2 ⟨s_iload_n (k := 3) (by decide +kernel) rfl, ?_⟩
  refine List.forall_mem_cons.2 ⟨s_aload (by decide +kernel), ?_⟩
  refine List.forall_mem_cons.2 ⟨s_iload (by decide +kernel), ?_⟩
  refine List.forall_mem_cons.2 ⟨s_iload (by decide +kernel), ?_⟩
  refine List.forall_mem_cons.2 ⟨s_invokevirtual (idx := 40) (M := 60) (k := 6) (ci := 2) (C := q_n2) (T := q_T2) (N := 8) (ym := q_y60) (wm := q_w60) (by decide +kernel) rfl rfl rfl (x_gdV mw_419 mw_420 mw_421 mw_422 mw_418) rfl (by decide +kernel) (by decide), ?_⟩
  refine List.forall_mem_cons.2 ⟨s_ifne (off := 6) (by decide +kernel) (by decide), ?_⟩
  refine List.forall_mem_cons.2 ⟨s_bipush (k := -5) (by decide +kernel) (by decide +kernel), ?_⟩
  refine List.forall_mem_cons.2 ⟨s_ireturn (ty := .int) (by decide +kernel) rfl, ?_⟩
  refine List.forall_mem_cons.2 ⟨s_aload_n (k := 0) (by decide +kernel) rfl, ?_⟩
  refine List.forall_mem_cons.2 ⟨s_getfield (C := q_n2) (T := q_T2) (N := 8) (idx := 21) (ref := "ProofDesk$Deduction") (by decide +kernel) rfl q_in2 (by decide) (x_up mw_405) rfl, ?_⟩
  refine List.forall_mem_cons.2 ⟨s_aload_n (k := 0) (by decide +kernel) rfl, ?_⟩
  refine List.forall_mem_cons.2 ⟨s_getfield (C := q_n2) (T := q_T2) (N := 8) (idx := 44) (ref := "ProofDesk$Deduction") (by decide +kernel) rfl q_in2 (by decide) (x_up mw_423) rfl, ?_⟩
  refine List.forall_mem_cons.2 ⟨s_aload_n (k := 0) (by decide +kernel) rfl, ?_⟩
  refine List.forall_mem_cons.2 ⟨s_getfield (C := q_n2) (T := q_T2) (N := 8) (idx := 48) (ref := "ProofDesk$Deduction") (by decide +kernel) rfl q_in2 (by decide) (x_up mw_424) rfl, ?_⟩
  refine List.forall_mem_cons.2 ⟨s_invokevirtual (idx := 51) (M := 44) (k := 2) (ci := 5) (C := q_n5) (T := q_T5) (N := 9) (ym := q_y44) (wm := q_w44) (by decide +kernel) rfl rfl rfl (x_gdV mw_426 mw_427 mw_428 mw_321 mw_425) rfl (by decide +kernel) (by decide), ?_⟩
  refine List.forall_mem_cons.2 ⟨s_ifne (off := 6) (by decide +kernel) (by decide), ?_⟩
  refine List.forall_mem_cons.2 ⟨s_bipush (k := -6) (by decide +kernel) (by decide +kernel), ?_⟩
  refine List.forall_mem_cons.2 ⟨s_ireturn (ty := .int) (by decide +kernel) rfl, ?_⟩
  refine List.forall_mem_cons.2 ⟨s_aload_n (k := 0) (by decide +kernel) rfl, ?_⟩
  refine List.forall_mem_cons.2 ⟨s_getfield (C := q_n2) (T := q_T2) (N := 8) (idx := 12) (ref := "ProofDesk$Deduction") (by decide +kernel) rfl q_in2 (by decide) (x_up mw_399) rfl, ?_⟩
  exact fun _ h => absurd h List.not_mem_nil
def q_k59_1 : List (Nat × xO) := [(81, x_cv 84 10 1 4), (84, x_lda 85 0), (85, x_lda 86 2), (86, x_st (x_push 87 (.int (0)))), (87, x_cv 90 65 3 2), (90, x_st (x_ifeq 115 93)), (93, x_ldi 95 7), (95, x_st (x_ifeq 111 98)), (98, x_lda 99 0), (99, x_lda 101 4), (101, x_lda 102 2), (102, x_gf 105 4 4), (105, x_cv 108 65 3 2), (108, x_st (x_ifeq 115 111)), (111, x_st (x_push 112 (.int (1)))), (112, x_st (x_goto 116)), (115, x_st (x_push 116 (.int (0)))), (116, x_sti 118 8), (118, x_ldi 120 8), (120, x_st (x_ifeq 139 123)), (123, x_lda 124 0), (124, x_gf 127 2 0), (127, x_cv 130 21 1 4), (130, x_st (x_push 132 (.int (26)))), (132, x_st (x_icgt 139 135)), (135, x_st (x_push 136 (.int (0)))), (136, x_st (x_goto 141)), (139, x_st (x_push 141 (.int (-7)))), (141, x_ri (.int))]
set_option maxRecDepth 100000 in
set_option maxHeartbeats 4000000 in
theorem q_s59_1 (l : Launch) (s0 : State) : ∀ q ∈ q_k59_1, x_Sim (x_K s0) none l q_y59 q_c59 9 (some .int) q_w59 q.1 q.2 := by
  unfold q_k59_1
  refine List.forall_mem_cons.2 ⟨s_invokevirtual (idx := 55) (M := 10) (k := 0) (ci := 4) (C := q_n4) (T := q_T4) (N := 6) (ym := q_y10) (wm := q_w10) (by decide +kernel) rfl rfl rfl (x_gdV mw_429 mw_243 mw_244 mw_203 mw_241) rfl (by decide +kernel) (by decide), ?_⟩
  refine List.forall_mem_cons.2 ⟨s_aload_n (k := 0) (by decide +kernel) rfl, ?_⟩
  refine List.forall_mem_cons.2 ⟨s_aload_n (k := 2) (by decide +kernel) rfl, ?_⟩
  refine List.forall_mem_cons.2 ⟨s_iconst (k := 0) (by decide +kernel) (by decide +kernel), ?_⟩
  refine List.forall_mem_cons.2 ⟨s_invokevirtual (idx := 58) (M := 65) (k := 2) (ci := 2) (C := q_n2) (T := q_T2) (N := 8) (ym := q_y65) (wm := q_w65) (by decide +kernel) rfl rfl rfl (x_gdV mw_431 mw_432 mw_433 mw_422 mw_430) rfl (by decide +kernel) (by decide), ?_⟩
  refine List.forall_mem_cons.2 ⟨s_ifeq (off := 25) (by decide +kernel) (by decide), ?_⟩
  refine List.forall_mem_cons.2 ⟨s_iload (by decide +kernel), ?_⟩
  refine List.forall_mem_cons.2 ⟨s_ifeq (off := 16) (by decide +kernel) (by decide), ?_⟩
  refine List.forall_mem_cons.2 ⟨s_aload_n (k := 0) (by decide +kernel) rfl, ?_⟩
  refine List.forall_mem_cons.2 ⟨s_aload (by decide +kernel), ?_⟩
  refine List.forall_mem_cons.2 ⟨s_aload_n (k := 2) (by decide +kernel) rfl, ?_⟩
  refine List.forall_mem_cons.2 ⟨s_getfield (C := q_n4) (T := q_T4) (N := 6) (idx := 62) (ref := "ProofDesk$Form") (by decide +kernel) rfl q_in4 (by decide) (x_up mw_434) rfl, ?_⟩
  refine List.forall_mem_cons.2 ⟨s_invokevirtual (idx := 58) (M := 65) (k := 2) (ci := 2) (C := q_n2) (T := q_T2) (N := 8) (ym := q_y65) (wm := q_w65) (by decide +kernel) rfl rfl rfl (x_gdV mw_431 mw_432 mw_433 mw_422 mw_430) rfl (by decide +kernel) (by decide), ?_⟩
  refine List.forall_mem_cons.2 ⟨s_ifeq (off := 7) (by decide +kernel) (by decide), ?_⟩
  refine List.forall_mem_cons.2 ⟨s_iconst (k := 1) (by decide +kernel) (by decide +kernel), ?_⟩
  refine List.forall_mem_cons.2 ⟨s_goto (off := 4) (by decide +kernel) (by decide), ?_⟩
  refine List.forall_mem_cons.2 ⟨s_iconst (k := 0) (by decide +kernel) (by decide +kernel), ?_⟩
  refine List.forall_mem_cons.2 ⟨s_istore (by decide +kernel) (by decide), ?_⟩
  refine List.forall_mem_cons.2 ⟨s_iload (by decide +kernel), ?_⟩
  refine List.forall_mem_cons.2 ⟨s_ifeq (off := 19) (by decide +kernel) (by decide), ?_⟩
  refine List.forall_mem_cons.2 ⟨s_aload_n (k := 0) (by decide +kernel) rfl, ?_⟩
  refine List.forall_mem_cons.2 ⟨s_getfield (C := q_n2) (T := q_T2) (N := 8) (idx := 12) (ref := "ProofDesk$Deduction") (by decide +kernel) rfl q_in2 (by decide) (x_up mw_399) rfl, ?_⟩
  refine List.forall_mem_cons.2 ⟨s_invokevirtual (idx := 65) (M := 21) (k := 0) (ci := 4) (C := q_n4) (T := q_T4) (N := 6) (ym := q_y21) (wm := q_w21) (by decide +kernel) rfl rfl rfl (x_gdV mw_436 mw_437 mw_438 mw_203 mw_435) rfl (by decide +kernel) (by decide), ?_⟩
  refine List.forall_mem_cons.2 ⟨s_bipush (k := 26) (by decide +kernel) (by decide +kernel), ?_⟩
  refine List.forall_mem_cons.2 ⟨s_icmp_gt (off := 7) (by decide +kernel) (by decide), ?_⟩
  refine List.forall_mem_cons.2 ⟨s_iconst (k := 0) (by decide +kernel) (by decide +kernel), ?_⟩
  refine List.forall_mem_cons.2 ⟨s_goto (off := 5) (by decide +kernel) (by decide), ?_⟩
  refine List.forall_mem_cons.2 ⟨s_bipush (k := -7) (by decide +kernel) (by decide +kernel), ?_⟩
  refine List.forall_mem_cons.2 ⟨s_ireturn (ty := .int) (by decide +kernel) rfl, ?_⟩
  exact fun _ h => absurd h List.not_mem_nil
def q_k59 : List (Nat × xO) := q_k59_0 ++ q_k59_1
theorem q_s59 (l : Launch) (s0 : State) : ∀ q ∈ q_k59, x_Sim (x_K s0) none l q_y59 q_c59 9 (some .int) q_w59 q.1 q.2 := by
  intro q hq
  simp only [q_k59, List.mem_append] at hq
  rcases hq with h0 | h1
  · exact q_s59_0 l s0 q h0
  · exact q_s59_1 l s0 q h1
/-- ProofDesk$Deduction.choose(ILProofDesk$Form;ILProofDesk$Form;II)Z -/
def q_k60_0 : List (Nat × xO) := [(0, x_lda 1 0), (1, x_lda 2 2), (2, x_ldi 3 3), (3, x_cv 6 11 2 4), (6, x_pf 9 2 4 (.int)), (9, x_lda 10 0), (10, x_st (x_push 11 (.int (-1)))), (11, x_pf 14 2 5 (.int)), (14, x_lda 15 0), (15, x_st (x_push 16 (.int (-1)))), (16, x_pf 19 2 6 (.int)), (19, x_lda 20 0), (20, x_st (x_push 21 (.int (-1)))), (21, x_pf 24 2 7 (.int)), (24, x_ldi 25 1), (25, x_st (x_tsw 0 2 [52, 63, 72] 79)), (52, x_lda 53 0), (53, x_lda 54 2), (54, x_ldi 55 3), (55, x_lda 57 4), (57, x_ldi 59 5), (59, x_cv 62 61 5 2), (62, x_ri (.boolean)), (63, x_lda 64 0), (64, x_lda 65 2), (65, x_ldi 66 3), (66, x_ldi 68 5), (68, x_cv 71 62 4 2), (71, x_ri (.boolean)), (72, x_lda 73 0), (73, x_lda 74 2), (74, x_ldi 75 3), (75, x_cv 78 63 3 2), (78, x_ri (.boolean)), (79, x_lda 80 0), (80, x_lda 81 2), (81, x_ldi 82 3), (82, x_lda 84 4), (84, x_ldi 86 5), (86, x_ldi 88 6)]
set_option maxRecDepth 100000 in
set_option maxHeartbeats 4000000 in
theorem q_s60_0 (l : Launch) (s0 : State) : ∀ q ∈ q_k60_0, x_Sim (x_K s0) none l q_y60 q_c60 7 (some .boolean) q_w60 q.1 q.2 := by
  unfold q_k60_0
  refine List.forall_mem_cons.2 ⟨s_aload_n (k := 0) (by decide +kernel) rfl, ?_⟩
  refine List.forall_mem_cons.2 ⟨s_aload_n (k := 2) (by decide +kernel) rfl, ?_⟩
  refine List.forall_mem_cons.2 ⟨s_iload_n (k := 3) (by decide +kernel) rfl, ?_⟩
  refine List.forall_mem_cons.2 ⟨s_invokevirtual (idx := 69) (M := 11) (k := 1) (ci := 4) (C := q_n4) (T := q_T4) (N := 6) (ym := q_y11) (wm := q_w11) (by decide +kernel) rfl rfl rfl (x_gdV mw_439 mw_201 mw_202 mw_203 mw_199) rfl (by decide +kernel) (by decide), ?_⟩
  refine List.forall_mem_cons.2 ⟨s_putfield (C := q_n2) (T := q_T2) (N := 8) (idx := 73) (ref := "ProofDesk$Deduction") q_t2 (by decide +kernel) rfl q_in2 q_ty2 q_nm2 (by decide) (x_up mw_440) rfl rfl (by decide +kernel), ?_⟩
  refine List.forall_mem_cons.2 ⟨s_aload_n (k := 0) (by decide +kernel) rfl, ?_⟩
  refine List.forall_mem_cons.2 ⟨s_iconst (k := -1) (by decide +kernel) (by decide +kernel), ?_⟩
  refine List.forall_mem_cons.2 ⟨s_putfield (C := q_n2) (T := q_T2) (N := 8) (idx := 76) (ref := "ProofDesk$Deduction") q_t2 (by decide +kernel) rfl q_in2 q_ty2 q_nm2 (by decide) (x_up mw_441) rfl rfl (by decide +kernel), ?_⟩
  refine List.forall_mem_cons.2 ⟨s_aload_n (k := 0) (by decide +kernel) rfl, ?_⟩
  refine List.forall_mem_cons.2 ⟨s_iconst (k := -1) (by decide +kernel) (by decide +kernel), ?_⟩
  refine List.forall_mem_cons.2 ⟨s_putfield (C := q_n2) (T := q_T2) (N := 8) (idx := 79) (ref := "ProofDesk$Deduction") q_t2 (by decide +kernel) rfl q_in2 q_ty2 q_nm2 (by decide) (x_up mw_442) rfl rfl (by decide +kernel), ?_⟩
  refine List.forall_mem_cons.2 ⟨s_aload_n (k := 0) (by decide +kernel) rfl, ?_⟩
  refine List.forall_mem_cons.2 ⟨s_iconst (k := -1) (by decide +kernel) (by decide +kernel), ?_⟩
  refine List.forall_mem_cons.2 ⟨s_putfield (C := q_n2) (T := q_T2) (N := 8) (idx := 82) (ref := "ProofDesk$Deduction") q_t2 (by decide +kernel) rfl q_in2 q_ty2 q_nm2 (by decide) (x_up mw_443) rfl rfl (by decide +kernel), ?_⟩
  refine List.forall_mem_cons.2 ⟨s_iload_n (k := 1) (by decide +kernel) rfl, ?_⟩
  refine List.forall_mem_cons.2 ⟨s_tsw (dflt := 54) (lo := 0) (hi := 2) (offs := #[27, 38, 47]) (len := 27) (by decide +kernel) (by decide) (by decide +kernel), ?_⟩
  refine List.forall_mem_cons.2 ⟨s_aload_n (k := 0) (by decide +kernel) rfl, ?_⟩
  refine List.forall_mem_cons.2 ⟨s_aload_n (k := 2) (by decide +kernel) rfl, ?_⟩
  refine List.forall_mem_cons.2 ⟨s_iload_n (k := 3) (by decide +kernel) rfl, ?_⟩
  refine List.forall_mem_cons.2 ⟨s_aload (by decide +kernel), ?_⟩
  refine List.forall_mem_cons.2 ⟨s_iload (by decide +kernel), ?_⟩
  refine List.forall_mem_cons.2 ⟨s_invokevirtual (idx := 85) (M := 61) (k := 4) (ci := 2) (C := q_n2) (T := q_T2) (N := 8) (ym := q_y61) (wm := q_w61) (by decide +kernel) rfl rfl rfl (x_gdV mw_445 mw_446 mw_447 mw_422 mw_444) rfl (by decide +kernel) (by decide), ?_⟩
  refine List.forall_mem_cons.2 ⟨s_ireturn (ty := .boolean) (by decide +kernel) rfl, ?_⟩
  refine List.forall_mem_cons.2 ⟨s_aload_n (k := 0) (by decide +kernel) rfl, ?_⟩
  refine List.forall_mem_cons.2 ⟨s_aload_n (k := 2) (by decide +kernel) rfl, ?_⟩
  refine List.forall_mem_cons.2 ⟨s_iload_n (k := 3) (by decide +kernel) rfl, ?_⟩
  refine List.forall_mem_cons.2 ⟨s_iload (by decide +kernel), ?_⟩
  refine List.forall_mem_cons.2 ⟨s_invokevirtual (idx := 89) (M := 62) (k := 3) (ci := 2) (C := q_n2) (T := q_T2) (N := 8) (ym := q_y62) (wm := q_w62) (by decide +kernel) rfl rfl rfl (x_gdV mw_449 mw_450 mw_451 mw_422 mw_448) rfl (by decide +kernel) (by decide), ?_⟩
  refine List.forall_mem_cons.2 ⟨s_ireturn (ty := .boolean) (by decide +kernel) rfl, ?_⟩
  refine List.forall_mem_cons.2 ⟨s_aload_n (k := 0) (by decide +kernel) rfl, ?_⟩
  refine List.forall_mem_cons.2 ⟨s_aload_n (k := 2) (by decide +kernel) rfl, ?_⟩
  refine List.forall_mem_cons.2 ⟨s_iload_n (k := 3) (by decide +kernel) rfl, ?_⟩
  refine List.forall_mem_cons.2 ⟨s_invokevirtual (idx := 93) (M := 63) (k := 2) (ci := 2) (C := q_n2) (T := q_T2) (N := 8) (ym := q_y63) (wm := q_w63) (by decide +kernel) rfl rfl rfl (x_gdV mw_453 mw_454 mw_455 mw_422 mw_452) rfl (by decide +kernel) (by decide), ?_⟩
  refine List.forall_mem_cons.2 ⟨s_ireturn (ty := .boolean) (by decide +kernel) rfl, ?_⟩
  refine List.forall_mem_cons.2 ⟨s_aload_n (k := 0) (by decide +kernel) rfl, ?_⟩
  refine List.forall_mem_cons.2 ⟨s_aload_n (k := 2) (by decide +kernel) rfl, ?_⟩
  refine List.forall_mem_cons.2 ⟨s_iload_n (k := 3) (by decide +kernel) rfl, ?_⟩
  refine List.forall_mem_cons.2 ⟨s_aload (by decide +kernel), ?_⟩
  refine List.forall_mem_cons.2 ⟨s_iload (by decide +kernel), ?_⟩
  refine List.forall_mem_cons.2 ⟨s_iload (by decide +kernel), ?_⟩
  exact fun _ h => absurd h List.not_mem_nil
def q_k60_1 : List (Nat × xO) := [(88, x_cv 91 64 6 2), (91, x_ri (.boolean))]
set_option maxRecDepth 100000 in
set_option maxHeartbeats 4000000 in
theorem q_s60_1 (l : Launch) (s0 : State) : ∀ q ∈ q_k60_1, x_Sim (x_K s0) none l q_y60 q_c60 7 (some .boolean) q_w60 q.1 q.2 := by
  unfold q_k60_1
  refine List.forall_mem_cons.2 ⟨s_invokevirtual (idx := 96) (M := 64) (k := 5) (ci := 2) (C := q_n2) (T := q_T2) (N := 8) (ym := q_y64) (wm := q_w64) (by decide +kernel) rfl rfl rfl (x_gdV mw_457 mw_458 mw_459 mw_422 mw_456) rfl (by decide +kernel) (by decide), ?_⟩
  refine List.forall_mem_cons.2 ⟨s_ireturn (ty := .boolean) (by decide +kernel) rfl, ?_⟩
  exact fun _ h => absurd h List.not_mem_nil
def q_k60 : List (Nat × xO) := q_k60_0 ++ q_k60_1
theorem q_s60 (l : Launch) (s0 : State) : ∀ q ∈ q_k60, x_Sim (x_K s0) none l q_y60 q_c60 7 (some .boolean) q_w60 q.1 q.2 := by
  intro q hq
  simp only [q_k60, List.mem_append] at hq
  rcases hq with h0 | h1
  · exact q_s60_0 l s0 q h0
  · exact q_s60_1 l s0 q h1
/-- ProofDesk$Deduction.chooseResolution(LProofDesk$Form;ILProofDesk$Form;I)Z -/
def q_k61_0 : List (Nat × xO) := [(0, x_lda 1 0), (1, x_lda 2 1), (2, x_ldi 3 2), (3, x_cv 6 11 2 4), (6, x_pf 9 2 2 (.int)), (9, x_lda 10 0), (10, x_lda 11 1), (11, x_gf 14 4 4), (14, x_lda 15 3), (15, x_ldi 17 4), (17, x_cv 20 11 2 4), (20, x_st (x_bin 21 (fun a b => a + b))), (21, x_pf 24 2 3 (.int)), (24, x_lda 25 0), (25, x_lda 26 0), (26, x_gf 29 2 3), (29, x_pf 32 2 5 (.int)), (32, x_lda 33 1), (33, x_gf 36 4 2), (36, x_ldi 37 2), (37, x_ald 38 1), (38, x_lda 39 3), (39, x_gf 42 4 2), (42, x_ldi 44 4), (44, x_ald 45 1), (45, x_st (x_iceq 52 48)), (48, x_st (x_push 49 (.int (1)))), (49, x_st (x_goto 53)), (52, x_st (x_push 53 (.int (0)))), (53, x_ri (.boolean))]
set_option maxRecDepth 100000 in
set_option maxHeartbeats 4000000 in
theorem q_s61_0 (l : Launch) (s0 : State) : ∀ q ∈ q_k61_0, x_Sim (x_K s0) none l q_y61 q_c61 5 (some .boolean) q_w61 q.1 q.2 := by
  unfold q_k61_0
  refine List.forall_mem_cons.2 ⟨s_aload_n (k := 0) (by decide +kernel) rfl, ?_⟩
  refine List.forall_mem_cons.2 ⟨s_aload_n (k := 1) (by decide +kernel) rfl, ?_⟩
  refine List.forall_mem_cons.2 ⟨s_iload_n (k := 2) (by decide +kernel) rfl, ?_⟩
  refine List.forall_mem_cons.2 ⟨s_invokevirtual (idx := 69) (M := 11) (k := 1) (ci := 4) (C := q_n4) (T := q_T4) (N := 6) (ym := q_y11) (wm := q_w11) (by decide +kernel) rfl rfl rfl (x_gdV mw_439 mw_201 mw_202 mw_203 mw_199) rfl (by decide +kernel) (by decide), ?_⟩
  refine List.forall_mem_cons.2 ⟨s_putfield (C := q_n2) (T := q_T2) (N := 8) (idx := 44) (ref := "ProofDesk$Deduction") q_t2 (by decide +kernel) rfl q_in2 q_ty2 q_nm2 (by decide) (x_up mw_423) rfl rfl (by decide +kernel), ?_⟩
  refine List.forall_mem_cons.2 ⟨s_aload_n (k := 0) (by decide +kernel) rfl, ?_⟩
  refine List.forall_mem_cons.2 ⟨s_aload_n (k := 1) (by decide +kernel) rfl, ?_⟩
  refine List.forall_mem_cons.2 ⟨s_getfield (C := q_n4) (T := q_T4) (N := 6) (idx := 62) (ref := "ProofDesk$Form") (by decide +kernel) rfl q_in4 (by decide) (x_up mw_434) rfl, ?_⟩
  refine List.forall_mem_cons.2 ⟨s_aload_n (k := 3) (by decide +kernel) rfl, ?_⟩
  refine List.forall_mem_cons.2 ⟨s_iload (by decide +kernel), ?_⟩
  refine List.forall_mem_cons.2 ⟨s_invokevirtual (idx := 69) (M := 11) (k := 1) (ci := 4) (C := q_n4) (T := q_T4) (N := 6) (ym := q_y11) (wm := q_w11) (by decide +kernel) rfl rfl rfl (x_gdV mw_439 mw_201 mw_202 mw_203 mw_199) rfl (by decide +kernel) (by decide), ?_⟩
  refine List.forall_mem_cons.2 ⟨s_iadd (by decide +kernel), ?_⟩
  refine List.forall_mem_cons.2 ⟨s_putfield (C := q_n2) (T := q_T2) (N := 8) (idx := 48) (ref := "ProofDesk$Deduction") q_t2 (by decide +kernel) rfl q_in2 q_ty2 q_nm2 (by decide) (x_up mw_424) rfl rfl (by decide +kernel), ?_⟩
  refine List.forall_mem_cons.2 ⟨s_aload_n (k := 0) (by decide +kernel) rfl, ?_⟩
  refine List.forall_mem_cons.2 ⟨s_aload_n (k := 0) (by decide +kernel) rfl, ?_⟩
  refine List.forall_mem_cons.2 ⟨s_getfield (C := q_n2) (T := q_T2) (N := 8) (idx := 48) (ref := "ProofDesk$Deduction") (by decide +kernel) rfl q_in2 (by decide) (x_up mw_424) rfl, ?_⟩
  refine List.forall_mem_cons.2 ⟨s_putfield (C := q_n2) (T := q_T2) (N := 8) (idx := 76) (ref := "ProofDesk$Deduction") q_t2 (by decide +kernel) rfl q_in2 q_ty2 q_nm2 (by decide) (x_up mw_441) rfl rfl (by decide +kernel), ?_⟩
  refine List.forall_mem_cons.2 ⟨s_aload_n (k := 1) (by decide +kernel) rfl, ?_⟩
  refine List.forall_mem_cons.2 ⟨s_getfield (C := q_n4) (T := q_T4) (N := 6) (idx := 100) (ref := "ProofDesk$Form") (by decide +kernel) rfl q_in4 (by decide) (x_up mw_460) rfl, ?_⟩
  refine List.forall_mem_cons.2 ⟨s_iload_n (k := 2) (by decide +kernel) rfl, ?_⟩
  refine List.forall_mem_cons.2 ⟨s_zald (by decide +kernel) rfl, ?_⟩
  refine List.forall_mem_cons.2 ⟨s_aload_n (k := 3) (by decide +kernel) rfl, ?_⟩
  refine List.forall_mem_cons.2 ⟨s_getfield (C := q_n4) (T := q_T4) (N := 6) (idx := 100) (ref := "ProofDesk$Form") (by decide +kernel) rfl q_in4 (by decide) (x_up mw_460) rfl, ?_⟩
  refine List.forall_mem_cons.2 ⟨s_iload (by decide +kernel), ?_⟩
  refine List.forall_mem_cons.2 ⟨s_zald (by decide +kernel) rfl, ?_⟩
  refine List.forall_mem_cons.2 ⟨s_icmp_eq (off := 7) (by decide +kernel) (by decide), ?_⟩
  refine List.forall_mem_cons.2 ⟨s_iconst (k := 1) (by decide +kernel) (by decide +kernel), ?_⟩
  refine List.forall_mem_cons.2 ⟨s_goto (off := 4) (by decide +kernel) (by decide), ?_⟩
  refine List.forall_mem_cons.2 ⟨s_iconst (k := 0) (by decide +kernel) (by decide +kernel), ?_⟩
  refine List.forall_mem_cons.2 ⟨s_ireturn (ty := .boolean) (by decide +kernel) rfl, ?_⟩
  exact fun _ h => absurd h List.not_mem_nil
def q_k61 : List (Nat × xO) := q_k61_0
theorem q_s61 (l : Launch) (s0 : State) : ∀ q ∈ q_k61, x_Sim (x_K s0) none l q_y61 q_c61 5 (some .boolean) q_w61 q.1 q.2 := q_s61_0 l s0
/-- ProofDesk$Deduction.chooseFactoring(LProofDesk$Form;II)Z -/
def q_k62_0 : List (Nat × xO) := [(0, x_lda 1 0), (1, x_lda 2 1), (2, x_ldi 3 2), (3, x_cv 6 11 2 4), (6, x_pf 9 2 2 (.int)), (9, x_lda 10 0), (10, x_lda 11 1), (11, x_ldi 12 3), (12, x_cv 15 11 2 4), (15, x_pf 18 2 3 (.int)), (18, x_lda 19 0), (19, x_lda 20 0), (20, x_gf 23 2 3), (23, x_pf 26 2 4 (.int)), (26, x_ldi 27 2), (27, x_ldi 28 3), (28, x_st (x_iceq 50 31)), (31, x_lda 32 1), (32, x_gf 35 4 2), (35, x_ldi 36 2), (36, x_ald 37 1), (37, x_lda 38 1), (38, x_gf 41 4 2), (41, x_ldi 42 3), (42, x_ald 43 1), (43, x_st (x_icne 50 46)), (46, x_st (x_push 47 (.int (1)))), (47, x_st (x_goto 51)), (50, x_st (x_push 51 (.int (0)))), (51, x_ri (.boolean))]
set_option maxRecDepth 100000 in
set_option maxHeartbeats 4000000 in
theorem q_s62_0 (l : Launch) (s0 : State) : ∀ q ∈ q_k62_0, x_Sim (x_K s0) none l q_y62 q_c62 4 (some .boolean) q_w62 q.1 q.2 := by
  unfold q_k62_0
  refine List.forall_mem_cons.2 ⟨s_aload_n (k := 0) (by decide +kernel) rfl, ?_⟩
  refine List.forall_mem_cons.2 ⟨s_aload_n (k := 1) (by decide +kernel) rfl, ?_⟩
  refine List.forall_mem_cons.2 ⟨s_iload_n (k := 2) (by decide +kernel) rfl, ?_⟩
  refine List.forall_mem_cons.2 ⟨s_invokevirtual (idx := 69) (M := 11) (k := 1) (ci := 4) (C := q_n4) (T := q_T4) (N := 6) (ym := q_y11) (wm := q_w11) (by decide +kernel) rfl rfl rfl (x_gdV mw_439 mw_201 mw_202 mw_203 mw_199) rfl (by decide +kernel) (by decide), ?_⟩
  refine List.forall_mem_cons.2 ⟨s_putfield (C := q_n2) (T := q_T2) (N := 8) (idx := 44) (ref := "ProofDesk$Deduction") q_t2 (by decide +kernel) rfl q_in2 q_ty2 q_nm2 (by decide) (x_up mw_423) rfl rfl (by decide +kernel), ?_⟩
  refine List.forall_mem_cons.2 ⟨s_aload_n (k := 0) (by decide +kernel) rfl, ?_⟩
  refine List.forall_mem_cons.2 ⟨s_aload_n (k := 1) (by decide +kernel) rfl, ?_⟩
  refine List.forall_mem_cons.2 ⟨s_iload_n (k := 3) (by decide +kernel) rfl, ?_⟩
  refine List.forall_mem_cons.2 ⟨s_invokevirtual (idx := 69) (M := 11) (k := 1) (ci := 4) (C := q_n4) (T := q_T4) (N := 6) (ym := q_y11) (wm := q_w11) (by decide +kernel) rfl rfl rfl (x_gdV mw_439 mw_201 mw_202 mw_203 mw_199) rfl (by decide +kernel) (by decide), ?_⟩
  refine List.forall_mem_cons.2 ⟨s_putfield (C := q_n2) (T := q_T2) (N := 8) (idx := 48) (ref := "ProofDesk$Deduction") q_t2 (by decide +kernel) rfl q_in2 q_ty2 q_nm2 (by decide) (x_up mw_424) rfl rfl (by decide +kernel), ?_⟩
  refine List.forall_mem_cons.2 ⟨s_aload_n (k := 0) (by decide +kernel) rfl, ?_⟩
  refine List.forall_mem_cons.2 ⟨s_aload_n (k := 0) (by decide +kernel) rfl, ?_⟩
  refine List.forall_mem_cons.2 ⟨s_getfield (C := q_n2) (T := q_T2) (N := 8) (idx := 48) (ref := "ProofDesk$Deduction") (by decide +kernel) rfl q_in2 (by decide) (x_up mw_424) rfl, ?_⟩
  refine List.forall_mem_cons.2 ⟨s_putfield (C := q_n2) (T := q_T2) (N := 8) (idx := 73) (ref := "ProofDesk$Deduction") q_t2 (by decide +kernel) rfl q_in2 q_ty2 q_nm2 (by decide) (x_up mw_440) rfl rfl (by decide +kernel), ?_⟩
  refine List.forall_mem_cons.2 ⟨s_iload_n (k := 2) (by decide +kernel) rfl, ?_⟩
  refine List.forall_mem_cons.2 ⟨s_iload_n (k := 3) (by decide +kernel) rfl, ?_⟩
  refine List.forall_mem_cons.2 ⟨s_icmp_eq (off := 22) (by decide +kernel) (by decide), ?_⟩
  refine List.forall_mem_cons.2 ⟨s_aload_n (k := 1) (by decide +kernel) rfl, ?_⟩
  refine List.forall_mem_cons.2 ⟨s_getfield (C := q_n4) (T := q_T4) (N := 6) (idx := 100) (ref := "ProofDesk$Form") (by decide +kernel) rfl q_in4 (by decide) (x_up mw_460) rfl, ?_⟩
  refine List.forall_mem_cons.2 ⟨s_iload_n (k := 2) (by decide +kernel) rfl, ?_⟩
  refine List.forall_mem_cons.2 ⟨s_zald (by decide +kernel) rfl, ?_⟩
  refine List.forall_mem_cons.2 ⟨s_aload_n (k := 1) (by decide +kernel) rfl, ?_⟩
  refine List.forall_mem_cons.2 ⟨s_getfield (C := q_n4) (T := q_T4) (N := 6) (idx := 100) (ref := "ProofDesk$Form") (by decide +kernel) rfl q_in4 (by decide) (x_up mw_460) rfl, ?_⟩
  refine List.forall_mem_cons.2 ⟨s_iload_n (k := 3) (by decide +kernel) rfl, ?_⟩
  refine List.forall_mem_cons.2 ⟨s_zald (by decide +kernel) rfl, ?_⟩
  refine List.forall_mem_cons.2 ⟨s_icmp_ne (off := 7) (by decide +kernel) (by decide), ?_⟩
  refine List.forall_mem_cons.2 ⟨s_iconst (k := 1) (by decide +kernel) (by decide +kernel), ?_⟩
  refine List.forall_mem_cons.2 ⟨s_goto (off := 4) (by decide +kernel) (by decide), ?_⟩
  refine List.forall_mem_cons.2 ⟨s_iconst (k := 0) (by decide +kernel) (by decide +kernel), ?_⟩
  refine List.forall_mem_cons.2 ⟨s_ireturn (ty := .boolean) (by decide +kernel) rfl, ?_⟩
  exact fun _ h => absurd h List.not_mem_nil
def q_k62 : List (Nat × xO) := q_k62_0
theorem q_s62 (l : Launch) (s0 : State) : ∀ q ∈ q_k62, x_Sim (x_K s0) none l q_y62 q_c62 4 (some .boolean) q_w62 q.1 q.2 := q_s62_0 l s0
/-- ProofDesk$Deduction.chooseReflection(LProofDesk$Form;I)Z -/
def q_k63_0 : List (Nat × xO) := [(0, x_lda 1 0), (1, x_lda 2 1), (2, x_ldi 3 2), (3, x_cv 6 11 2 4), (6, x_st (x_push 7 (.int (1)))), (7, x_st (x_bin 8 (fun a b => a + b))), (8, x_pf 11 2 2 (.int)), (11, x_lda 12 0), (12, x_lda 13 0), (13, x_gf 16 2 1), (16, x_lda 17 0), (17, x_gf 20 2 2), (20, x_cv 23 43 2 5), (23, x_pf 26 2 3 (.int)), (26, x_lda 27 1), (27, x_gf 30 4 2), (30, x_ldi 31 2), (31, x_ald 32 1), (32, x_st (x_ifeq 47 35)), (35, x_lda 36 1), (36, x_ldi 37 2), (37, x_cv 40 13 2 4), (40, x_st (x_ifeq 47 43)), (43, x_st (x_push 44 (.int (1)))), (44, x_st (x_goto 48)), (47, x_st (x_push 48 (.int (0)))), (48, x_ri (.boolean))]
set_option maxRecDepth 100000 in
set_option maxHeartbeats 4000000 in
theorem q_s63_0 (l : Launch) (s0 : State) : ∀ q ∈ q_k63_0, x_Sim (x_K s0) none l q_y63 q_c63 3 (some .boolean) q_w63 q.1 q.2 := by
  unfold q_k63_0
  refine List.forall_mem_cons.2 ⟨s_aload_n (k := 0) (by decide +kernel) rfl, ?_⟩
  refine List.forall_mem_cons.2 ⟨s_aload_n (k := 1) (by decide +kernel) rfl, ?_⟩
  refine List.forall_mem_cons.2 ⟨s_iload_n (k := 2) (by decide +kernel) rfl, ?_⟩
  refine List.forall_mem_cons.2 ⟨s_invokevirtual (idx := 69) (M := 11) (k := 1) (ci := 4) (C := q_n4) (T := q_T4) (N := 6) (ym := q_y11) (wm := q_w11) (by decide +kernel) rfl rfl rfl (x_gdV mw_439 mw_201 mw_202 mw_203 mw_199) rfl (by decide +kernel) (by decide), ?_⟩
  refine List.forall_mem_cons.2 ⟨s_iconst (k := 1) (by decide +kernel) (by decide +kernel), ?_⟩
  refine List.forall_mem_cons.2 ⟨s_iadd (by decide +kernel), ?_⟩
  refine List.forall_mem_cons.2 ⟨s_putfield (C := q_n2) (T := q_T2) (N := 8) (idx := 44) (ref := "ProofDesk$Deduction") q_t2 (by decide +kernel) rfl q_in2 q_ty2 q_nm2 (by decide) (x_up mw_423) rfl rfl (by decide +kernel), ?_⟩
  refine List.forall_mem_cons.2 ⟨s_aload_n (k := 0) (by decide +kernel) rfl, ?_⟩
  refine List.forall_mem_cons.2 ⟨s_aload_n (k := 0) (by decide +kernel) rfl, ?_⟩
  refine List.forall_mem_cons.2 ⟨s_getfield (C := q_n2) (T := q_T2) (N := 8) (idx := 21) (ref := "ProofDesk$Deduction") (by decide +kernel) rfl q_in2 (by decide) (x_up mw_405) rfl, ?_⟩
  refine List.forall_mem_cons.2 ⟨s_aload_n (k := 0) (by decide +kernel) rfl, ?_⟩
  refine List.forall_mem_cons.2 ⟨s_getfield (C := q_n2) (T := q_T2) (N := 8) (idx := 44) (ref := "ProofDesk$Deduction") (by decide +kernel) rfl q_in2 (by decide) (x_up mw_423) rfl, ?_⟩
  refine List.forall_mem_cons.2 ⟨s_invokevirtual (idx := 104) (M := 43) (k := 1) (ci := 5) (C := q_n5) (T := q_T5) (N := 9) (ym := q_y43) (wm := q_w43) (by decide +kernel) rfl rfl rfl (x_gdV mw_461 mw_350 mw_351 mw_321 mw_348) rfl (by decide +kernel) (by decide), ?_⟩
  refine List.forall_mem_cons.2 ⟨s_putfield (C := q_n2) (T := q_T2) (N := 8) (idx := 48) (ref := "ProofDesk$Deduction") q_t2 (by decide +kernel) rfl q_in2 q_ty2 q_nm2 (by decide) (x_up mw_424) rfl rfl (by decide +kernel), ?_⟩
  refine List.forall_mem_cons.2 ⟨s_aload_n (k := 1) (by decide +kernel) rfl, ?_⟩
  refine List.forall_mem_cons.2 ⟨s_getfield (C := q_n4) (T := q_T4) (N := 6) (idx := 100) (ref := "ProofDesk$Form") (by decide +kernel) rfl q_in4 (by decide) (x_up mw_460) rfl, ?_⟩
  refine List.forall_mem_cons.2 ⟨s_iload_n (k := 2) (by decide +kernel) rfl, ?_⟩
  refine List.forall_mem_cons.2 ⟨s_zald (by decide +kernel) rfl, ?_⟩
  refine List.forall_mem_cons.2 ⟨s_ifeq (off := 15) (by decide +kernel) (by decide), ?_⟩
  refine List.forall_mem_cons.2 ⟨s_aload_n (k := 1) (by decide +kernel) rfl, ?_⟩
  refine List.forall_mem_cons.2 ⟨s_iload_n (k := 2) (by decide +kernel) rfl, ?_⟩
  refine List.forall_mem_cons.2 ⟨s_invokevirtual (idx := 107) (M := 13) (k := 1) (ci := 4) (C := q_n4) (T := q_T4) (N := 6) (ym := q_y13) (wm := q_w13) (by decide +kernel) rfl rfl rfl (x_gdV mw_462 mw_226 mw_227 mw_203 mw_224) rfl (by decide +kernel) (by decide), ?_⟩
  refine List.forall_mem_cons.2 ⟨s_ifeq (off := 7) (by decide +kernel) (by decide), ?_⟩
  refine List.forall_mem_cons.2 ⟨s_iconst (k := 1) (by decide +kernel) (by decide +kernel), ?_⟩
  refine List.forall_mem_cons.2 ⟨s_goto (off := 4) (by decide +kernel) (by decide), ?_⟩
  refine List.forall_mem_cons.2 ⟨s_iconst (k := 0) (by decide +kernel) (by decide +kernel), ?_⟩
  refine List.forall_mem_cons.2 ⟨s_ireturn (ty := .boolean) (by decide +kernel) rfl, ?_⟩
  exact fun _ h => absurd h List.not_mem_nil
def q_k63 : List (Nat × xO) := q_k63_0
theorem q_s63 (l : Launch) (s0 : State) : ∀ q ∈ q_k63, x_Sim (x_K s0) none l q_y63 q_c63 3 (some .boolean) q_w63 q.1 q.2 := q_s63_0 l s0
/-- ProofDesk$Deduction.chooseRewriting(LProofDesk$Form;ILProofDesk$Form;II)Z -/
def q_k64_0 : List (Nat × xO) := [(0, x_lda 1 1), (1, x_ldi 2 2), (2, x_cv 5 11 2 4), (5, x_st (x_push 6 (.int (1)))), (6, x_st (x_bin 7 (fun a b => a + b))), (7, x_sti 9 6), (9, x_lda 10 0), (10, x_gf 13 2 1), (13, x_ldi 15 6), (15, x_cv 18 43 2 5), (18, x_sti 20 7), (20, x_lda 21 0), (21, x_ldi 23 5), (23, x_st (x_push 25 (.int (100)))), (25, x_st (x_iclt 33 28)), (28, x_ldi 30 7), (30, x_st (x_goto 35)), (33, x_ldi 35 6), (35, x_pf 38 2 2 (.int)), (38, x_lda 39 0), (39, x_ldi 41 5), (41, x_st (x_push 43 (.int (100)))), (43, x_st (x_iclt 51 46)), (46, x_ldi 48 6), (48, x_st (x_goto 53)), (51, x_ldi 53 7), (53, x_pf 56 2 7 (.int)), (56, x_lda 57 0), (57, x_lda 58 1), (58, x_gf 61 4 4), (61, x_lda 62 3), (62, x_ldi 64 4), (64, x_cv 67 11 2 4), (67, x_st (x_bin 68 (fun a b => a + b))), (68, x_st (x_push 69 (.int (1)))), (69, x_st (x_bin 70 (fun a b => a + b))), (70, x_ldi 72 5), (72, x_cl_ 75 87 1), (75, x_st (x_bin 76 (fun a b => a + b))), (76, x_pf 79 2 6 (.int))]
set_option maxRecDepth 100000 in
set_option maxHeartbeats 4000000 in
theorem q_s64_0 (l : Launch) (s0 : State) : ∀ q ∈ q_k64_0, x_Sim (x_K s0) none l q_y64 q_c64 8 (some .boolean) q_w64 q.1 q.2 := by
  unfold q_k64_0
  refine List.forall_mem_cons.2 ⟨s_aload_n (k := 1) (by decide +kernel) rfl, ?_⟩
  refine List.forall_mem_cons.2 ⟨s_iload_n (k := 2) (by decide +kernel) rfl, ?_⟩
  refine List.forall_mem_cons.2 ⟨s_invokevirtual (idx := 69) (M := 11) (k := 1) (ci := 4) (C := q_n4) (T := q_T4) (N := 6) (ym := q_y11) (wm := q_w11) (by decide +kernel) rfl rfl rfl (x_gdV mw_439 mw_201 mw_202 mw_203 mw_199) rfl (by decide +kernel) (by decide), ?_⟩
  refine List.forall_mem_cons.2 ⟨s_iconst (k := 1) (by decide +kernel) (by decide +kernel), ?_⟩
  refine List.forall_mem_cons.2 ⟨s_iadd (by decide +kernel), ?_⟩
  refine List.forall_mem_cons.2 ⟨s_istore (by decide +kernel) (by decide), ?_⟩
  refine List.forall_mem_cons.2 ⟨s_aload_n (k := 0) (by decide +kernel) rfl, ?_⟩
  refine List.forall_mem_cons.2 ⟨s_getfield (C := q_n2) (T := q_T2) (N := 8) (idx := 21) (ref := "ProofDesk$Deduction") (by decide +kernel) rfl q_in2 (by decide) (x_up mw_405) rfl, ?_⟩
  refine List.forall_mem_cons.2 ⟨s_iload (by decide +kernel), ?_⟩
  refine List.forall_mem_cons.2 ⟨s_invokevirtual (idx := 104) (M := 43) (k := 1) (ci := 5) (C := q_n5) (T := q_T5) (N := 9) (ym := q_y43) (wm := q_w43) (by decide +kernel) rfl rfl rfl (x_gdV mw_461 mw_350 mw_351 mw_321 mw_348) rfl (by decide +kernel) (by decide), ?_⟩
  refine List.forall_mem_cons.2 ⟨s_istore (by decide +kernel) (by decide), ?_⟩
  refine List.forall_mem_cons.2 ⟨s_aload_n (k := 0) (by decide +kernel) rfl, ?_⟩
  refine List.forall_mem_cons.2 ⟨s_iload (by decide +kernel), ?_⟩
  refine List.forall_mem_cons.2 ⟨s_bipush (k := 100) (by decide +kernel) (by decide +kernel), ?_⟩
  refine List.forall_mem_cons.2 ⟨s_icmp_lt (off := 8) (by decide +kernel) (by decide), ?_⟩
  refine List.forall_mem_cons.2 ⟨s_iload (by decide +kernel), ?_⟩
  refine List.forall_mem_cons.2 ⟨s_goto (off := 5) (by decide +kernel) (by decide), ?_⟩
  refine List.forall_mem_cons.2 ⟨s_iload (by decide +kernel), ?_⟩
  refine List.forall_mem_cons.2 ⟨s_putfield (C := q_n2) (T := q_T2) (N := 8) (idx := 44) (ref := "ProofDesk$Deduction") q_t2 (by decide +kernel) rfl q_in2 q_ty2 q_nm2 (by decide) (x_up mw_423) rfl rfl (by decide +kernel), ?_⟩
  refine List.forall_mem_cons.2 ⟨s_aload_n (k := 0) (by decide +kernel) rfl, ?_⟩
  refine List.forall_mem_cons.2 ⟨s_iload (by decide +kernel), ?_⟩
  refine List.forall_mem_cons.2 ⟨s_bipush (k := 100) (by decide +kernel) (by decide +kernel), ?_⟩
  refine List.forall_mem_cons.2 ⟨s_icmp_lt (off := 8) (by decide +kernel) (by decide), ?_⟩
  refine List.forall_mem_cons.2 ⟨s_iload (by decide +kernel), ?_⟩
  refine List.forall_mem_cons.2 ⟨s_goto (off := 5) (by decide +kernel) (by decide), ?_⟩
  refine List.forall_mem_cons.2 ⟨s_iload (by decide +kernel), ?_⟩
  refine List.forall_mem_cons.2 ⟨s_putfield (C := q_n2) (T := q_T2) (N := 8) (idx := 82) (ref := "ProofDesk$Deduction") q_t2 (by decide +kernel) rfl q_in2 q_ty2 q_nm2 (by decide) (x_up mw_443) rfl rfl (by decide +kernel), ?_⟩
  refine List.forall_mem_cons.2 ⟨s_aload_n (k := 0) (by decide +kernel) rfl, ?_⟩
  refine List.forall_mem_cons.2 ⟨s_aload_n (k := 1) (by decide +kernel) rfl, ?_⟩
  refine List.forall_mem_cons.2 ⟨s_getfield (C := q_n4) (T := q_T4) (N := 6) (idx := 62) (ref := "ProofDesk$Form") (by decide +kernel) rfl q_in4 (by decide) (x_up mw_434) rfl, ?_⟩
  refine List.forall_mem_cons.2 ⟨s_aload_n (k := 3) (by decide +kernel) rfl, ?_⟩
  refine List.forall_mem_cons.2 ⟨s_iload (by decide +kernel), ?_⟩
  refine List.forall_mem_cons.2 ⟨s_invokevirtual (idx := 69) (M := 11) (k := 1) (ci := 4) (C := q_n4) (T := q_T4) (N := 6) (ym := q_y11) (wm := q_w11) (by decide +kernel) rfl rfl rfl (x_gdV mw_439 mw_201 mw_202 mw_203 mw_199) rfl (by decide +kernel) (by decide), ?_⟩
  refine List.forall_mem_cons.2 ⟨s_iadd (by decide +kernel), ?_⟩
  refine List.forall_mem_cons.2 ⟨s_iconst (k := 1) (by decide +kernel) (by decide +kernel), ?_⟩
  refine List.forall_mem_cons.2 ⟨s_iadd (by decide +kernel), ?_⟩
  refine List.forall_mem_cons.2 ⟨s_iload (by decide +kernel), ?_⟩
  refine List.forall_mem_cons.2 ⟨s_invokestaticN (idx := 110) (M := 87) (ym := q_y87) (wm := q_w87) (by decide +kernel) rfl rfl (x_gd1 mw_463) x_nw4 (x_up mw_464) (x_up mw_408) rfl (by decide +kernel) (by decide), ?_⟩
  refine List.forall_mem_cons.2 ⟨s_iadd (by decide +kernel), ?_⟩
  refine List.forall_mem_cons.2 ⟨s_putfield (C := q_n2) (T := q_T2) (N := 8) (idx := 79) (ref := "ProofDesk$Deduction") q_t2 (by decide +kernel) rfl q_in2 q_ty2 q_nm2 (by decide) (x_up mw_442) rfl rfl (by decide +kernel), ?_⟩
  exact fun _ h => absurd h List.not_mem_nil
def q_k64_1 : List (Nat × xO) := [(79, x_lda 80 0), (80, x_lda 81 0), (81, x_gf 84 2 6), (84, x_pf 87 2 3 (.int)), (87, x_lda 88 1), (88, x_gf 91 4 2), (91, x_ldi 92 2), (92, x_ald 93 1), (93, x_st (x_ifne 108 96)), (96, x_lda 97 1), (97, x_ldi 98 2), (98, x_cv 101 13 2 4), (101, x_st (x_ifeq 108 104)), (104, x_st (x_push 105 (.int (1)))), (105, x_st (x_goto 109)), (108, x_st (x_push 109 (.int (0)))), (109, x_ri (.boolean))]
set_option maxRecDepth 100000 in
set_option maxHeartbeats 4000000 in
theorem q_s64_1 (l : Launch) (s0 : State) : ∀ q ∈ q_k64_1, x_Sim (x_K s0) none l q_y64 q_c64 8 (some .boolean) q_w64 q.1 q.2 := by
  unfold q_k64_1
  refine List.forall_mem_cons.2 ⟨s_aload_n (k := 0) (by decide +kernel) rfl, ?_⟩
  refine List.forall_mem_cons.2 ⟨s_aload_n (k := 0) (by decide +kernel) rfl, ?_⟩
  refine List.forall_mem_cons.2 ⟨s_getfield (C := q_n2) (T := q_T2) (N := 8) (idx := 79) (ref := "ProofDesk$Deduction") (by decide +kernel) rfl q_in2 (by decide) (x_up mw_442) rfl, ?_⟩
  refine List.forall_mem_cons.2 ⟨s_putfield (C := q_n2) (T := q_T2) (N := 8) (idx := 48) (ref := "ProofDesk$Deduction") q_t2 (by decide +kernel) rfl q_in2 q_ty2 q_nm2 (by decide) (x_up mw_424) rfl rfl (by decide +kernel), ?_⟩
  refine List.forall_mem_cons.2 ⟨s_aload_n (k := 1) (by decide +kernel) rfl, ?_⟩
  refine List.forall_mem_cons.2 ⟨s_getfield (C := q_n4) (T := q_T4) (N := 6) (idx := 100) (ref := "ProofDesk$Form") (by decide +kernel) rfl q_in4 (by decide) (x_up mw_460) rfl, ?_⟩
  refine List.forall_mem_cons.2 ⟨s_iload_n (k := 2) (by decide +kernel) rfl, ?_⟩
  refine List.forall_mem_cons.2 ⟨s_zald (by decide +kernel) rfl, ?_⟩
  refine List.forall_mem_cons.2 ⟨s_ifne (off := 15) (by decide +kernel) (by decide), ?_⟩
  refine List.forall_mem_cons.2 ⟨s_aload_n (k := 1) (by decide +kernel) rfl, ?_⟩
  refine List.forall_mem_cons.2 ⟨s_iload_n (k := 2) (by decide +kernel) rfl, ?_⟩
  refine List.forall_mem_cons.2 ⟨s_invokevirtual (idx := 107) (M := 13) (k := 1) (ci := 4) (C := q_n4) (T := q_T4) (N := 6) (ym := q_y13) (wm := q_w13) (by decide +kernel) rfl rfl rfl (x_gdV mw_462 mw_226 mw_227 mw_203 mw_224) rfl (by decide +kernel) (by decide), ?_⟩
  refine List.forall_mem_cons.2 ⟨s_ifeq (off := 7) (by decide +kernel) (by decide), ?_⟩
  refine List.forall_mem_cons.2 ⟨s_iconst (k := 1) (by decide +kernel) (by decide +kernel), ?_⟩
  refine List.forall_mem_cons.2 ⟨s_goto (off := 4) (by decide +kernel) (by decide), ?_⟩
  refine List.forall_mem_cons.2 ⟨s_iconst (k := 0) (by decide +kernel) (by decide +kernel), ?_⟩
  refine List.forall_mem_cons.2 ⟨s_ireturn (ty := .boolean) (by decide +kernel) rfl, ?_⟩
  exact fun _ h => absurd h List.not_mem_nil
def q_k64 : List (Nat × xO) := q_k64_0 ++ q_k64_1
theorem q_s64 (l : Launch) (s0 : State) : ∀ q ∈ q_k64, x_Sim (x_K s0) none l q_y64 q_c64 8 (some .boolean) q_w64 q.1 q.2 := by
  intro q hq
  simp only [q_k64, List.mem_append] at hq
  rcases hq with h0 | h1
  · exact q_s64_0 l s0 q h0
  · exact q_s64_1 l s0 q h1
/-- ProofDesk$Deduction.copyLiterals(LProofDesk$Form;I)Z -/
def q_k65_0 : List (Nat × xO) := [(0, x_st (x_push 1 (.int (0)))), (1, x_sti 2 3), (2, x_ldi 3 3), (3, x_lda 4 1), (4, x_gf 7 4 3), (7, x_st (x_icge 85 10)), (10, x_ldi 11 2), (11, x_lda 12 1), (12, x_ldi 13 3), (13, x_cv 16 11 2 4), (16, x_st (x_bin 17 (fun a b => a + b))), (17, x_sti 19 4), (19, x_ldi 21 4), (21, x_lda 22 0), (22, x_gf 25 2 4), (25, x_st (x_iceq 79 28)), (28, x_ldi 30 4), (30, x_lda 31 0), (31, x_gf 34 2 5), (34, x_st (x_iceq 79 37)), (37, x_lda 38 0), (38, x_gf 41 2 0), (41, x_lda 42 1), (42, x_gf 45 4 2), (45, x_ldi 46 3), (46, x_ald 47 1), (47, x_cv 50 15 2 4), (50, x_lda 51 0), (51, x_ldi 53 4), (53, x_ldi 54 2), (54, x_lda 55 1), (55, x_gf 58 4 1), (58, x_ldi 59 3), (59, x_ald 60 0), (60, x_st (x_bin 61 (fun a b => a + b))), (61, x_cv 64 66 3 2), (64, x_st (x_ifeq 77 67)), (67, x_lda 68 0), (68, x_gf 71 2 0), (71, x_cv 74 17 1 4)]
set_option maxRecDepth 100000 in
set_option maxHeartbeats 4000000 in
theorem q_s65_0 (l : Launch) (s0 : State) : ∀ q ∈ q_k65_0, x_Sim (x_K s0) none l q_y65 q_c65 5 (some .boolean) q_w65 q.1 q.2 := by
  unfold q_k65_0
  refine List.forall_mem_cons.2 ⟨s_iconst (k := 0) (by decide +kernel) (by decide +kernel), ?_⟩
  refine List.forall_mem_cons.2 ⟨s_istore_n (k := 3) (by decide +kernel) rfl (by decide), ?_⟩
  refine List.forall_mem_cons.2 ⟨s_iload_n (k := 3) (by decide +kernel) rfl, ?_⟩
  refine List.forall_mem_cons.2 ⟨s_aload_n (k := 1) (by decide +kernel) rfl, ?_⟩
  refine List.forall_mem_cons.2 ⟨s_getfield (C := q_n4) (T := q_T4) (N := 6) (idx := 113) (ref := "ProofDesk$Form") (by decide +kernel) rfl q_in4 (by decide) (x_up mw_465) rfl, ?_⟩
  refine List.forall_mem_cons.2 ⟨s_icmp_ge (off := 78) (by decide +kernel) (by decide), ?_⟩
  refine List.forall_mem_cons.2 ⟨s_iload_n (k := 2) (by decide +kernel) rfl, ?_⟩
  refine List.forall_mem_cons.2 ⟨s_aload_n (k := 1) (by decide +kernel) rfl, ?_⟩
  refine List.forall_mem_cons.2 ⟨s_iload_n (k := 3) (by decide +kernel) rfl, ?_⟩
  refine List.forall_mem_cons.2 ⟨s_invokevirtual (idx := 69) (M := 11) (k := 1) (ci := 4) (C := q_n4) (T := q_T4) (N := 6) (ym := q_y11) (wm := q_w11) (by decide +kernel) rfl rfl rfl (x_gdV mw_439 mw_201 mw_202 mw_203 mw_199) rfl (by decide +kernel) (by decide), ?_⟩
  refine List.forall_mem_cons.2 ⟨s_iadd (by decide +kernel), ?_⟩
  refine List.forall_mem_cons.2 ⟨s_istore (by decide +kernel) (by decide), ?_⟩
  refine List.forall_mem_cons.2 ⟨s_iload (by decide +kernel), ?_⟩
  refine List.forall_mem_cons.2 ⟨s_aload_n (k := 0) (by decide +kernel) rfl, ?_⟩
  refine List.forall_mem_cons.2 ⟨s_getfield (C := q_n2) (T := q_T2) (N := 8) (idx := 73) (ref := "ProofDesk$Deduction") (by decide +kernel) rfl q_in2 (by decide) (x_up mw_440) rfl, ?_⟩
  refine List.forall_mem_cons.2 ⟨s_icmp_eq (off := 54) (by decide +kernel) (by decide), ?_⟩
  refine List.forall_mem_cons.2 ⟨s_iload (by decide +kernel), ?_⟩
  refine List.forall_mem_cons.2 ⟨s_aload_n (k := 0) (by decide +kernel) rfl, ?_⟩
  refine List.forall_mem_cons.2 ⟨s_getfield (C := q_n2) (T := q_T2) (N := 8) (idx := 76) (ref := "ProofDesk$Deduction") (by decide +kernel) rfl q_in2 (by decide) (x_up mw_441) rfl, ?_⟩
  refine List.forall_mem_cons.2 ⟨s_icmp_eq (off := 45) (by decide +kernel) (by decide), ?_⟩
  refine List.forall_mem_cons.2 ⟨s_aload_n (k := 0) (by decide +kernel) rfl, ?_⟩
  refine List.forall_mem_cons.2 ⟨s_getfield (C := q_n2) (T := q_T2) (N := 8) (idx := 12) (ref := "ProofDesk$Deduction") (by decide +kernel) rfl q_in2 (by decide) (x_up mw_399) rfl, ?_⟩
  refine List.forall_mem_cons.2 ⟨s_aload_n (k := 1) (by decide +kernel) rfl, ?_⟩
  refine List.forall_mem_cons.2 ⟨s_getfield (C := q_n4) (T := q_T4) (N := 6) (idx := 100) (ref := "ProofDesk$Form") (by decide +kernel) rfl q_in4 (by decide) (x_up mw_460) rfl, ?_⟩
  refine List.forall_mem_cons.2 ⟨s_iload_n (k := 3) (by decide +kernel) rfl, ?_⟩
  refine List.forall_mem_cons.2 ⟨s_zald (by decide +kernel) rfl, ?_⟩
  refine List.forall_mem_cons.2 ⟨s_invokevirtual (idx := 116) (M := 15) (k := 1) (ci := 4) (C := q_n4) (T := q_T4) (N := 6) (ym := q_y15) (wm := q_w15) (by decide +kernel) rfl rfl rfl (x_gdV mw_466 mw_260 mw_261 mw_203 mw_258) rfl (by decide +kernel) (by decide), ?_⟩
  refine List.forall_mem_cons.2 ⟨s_aload_n (k := 0) (by decide +kernel) rfl, ?_⟩
  refine List.forall_mem_cons.2 ⟨s_iload (by decide +kernel), ?_⟩
  refine List.forall_mem_cons.2 ⟨s_iload_n (k := 2) (by decide +kernel) rfl, ?_⟩
  refine List.forall_mem_cons.2 ⟨s_aload_n (k := 1) (by decide +kernel) rfl, ?_⟩
  refine List.forall_mem_cons.2 ⟨s_getfield (C := q_n4) (T := q_T4) (N := 6) (idx := 120) (ref := "ProofDesk$Form") (by decide +kernel) rfl q_in4 (by decide) (x_up mw_467) rfl, ?_⟩
  refine List.forall_mem_cons.2 ⟨s_iload_n (k := 3) (by decide +kernel) rfl, ?_⟩
  refine List.forall_mem_cons.2 ⟨s_iald (by decide +kernel) rfl, ?_⟩
  refine List.forall_mem_cons.2 ⟨s_iadd (by decide +kernel), ?_⟩
  refine List.forall_mem_cons.2 ⟨s_invokevirtual (idx := 124) (M := 66) (k := 2) (ci := 2) (C := q_n2) (T := q_T2) (N := 8) (ym := q_y66) (wm := q_w66) (by decide +kernel) rfl rfl rfl (x_gdV mw_469 mw_470 mw_471 mw_422 mw_468) rfl (by decide +kernel) (by decide), ?_⟩
  refine List.forall_mem_cons.2 ⟨s_ifeq (off := 13) (by decide +kernel) (by decide), ?_⟩
  refine List.forall_mem_cons.2 ⟨s_aload_n (k := 0) (by decide +kernel) rfl, ?_⟩
  refine List.forall_mem_cons.2 ⟨s_getfield (C := q_n2) (T := q_T2) (N := 8) (idx := 12) (ref := "ProofDesk$Deduction") (by decide +kernel) rfl q_in2 (by decide) (x_up mw_399) rfl, ?_⟩
  refine List.forall_mem_cons.2 ⟨s_invokevirtual (idx := 127) (M := 17) (k := 0) (ci := 4) (C := q_n4) (T := q_T4) (N := 6) (ym := q_y17) (wm := q_w17) (by decide +kernel) rfl rfl rfl (x_gdV mw_472 mw_276 mw_277 mw_203 mw_274) rfl (by decide +kernel) (by decide), ?_⟩
  exact fun _ h => absurd h List.not_mem_nil
def q_k65_1 : List (Nat × xO) := [(74, x_st (x_ifne 79 77)), (77, x_st (x_push 78 (.int (0)))), (78, x_ri (.boolean)), (79, x_iinc 82 3 (1)), (82, x_st (x_goto 2)), (85, x_st (x_push 86 (.int (1)))), (86, x_ri (.boolean))]
set_option maxRecDepth 100000 in
set_option maxHeartbeats 4000000 in
theorem q_s65_1 (l : Launch) (s0 : State) : ∀ q ∈ q_k65_1, x_Sim (x_K s0) none l q_y65 q_c65 5 (some .boolean) q_w65 q.1 q.2 := by
  unfold q_k65_1
  refine List.forall_mem_cons.2 ⟨s_ifne (off := 5) (by decide +kernel) (by decide), ?_⟩
  refine List.forall_mem_cons.2 ⟨s_iconst (k := 0) (by decide +kernel) (by decide +kernel), ?_⟩
  refine List.forall_mem_cons.2 ⟨s_ireturn (ty := .boolean) (by decide +kernel) rfl, ?_⟩
  refine List.forall_mem_cons.2 ⟨s_iinc (k := 1) (by decide +kernel) (by decide +kernel) (by decide), ?_⟩
  refine List.forall_mem_cons.2 ⟨s_goto (off := -80) (by decide +kernel) (by decide), ?_⟩
  refine List.forall_mem_cons.2 ⟨s_iconst (k := 1) (by decide +kernel) (by decide +kernel), ?_⟩
  refine List.forall_mem_cons.2 ⟨s_ireturn (ty := .boolean) (by decide +kernel) rfl, ?_⟩
  exact fun _ h => absurd h List.not_mem_nil
def q_k65 : List (Nat × xO) := q_k65_0 ++ q_k65_1
theorem q_s65 (l : Launch) (s0 : State) : ∀ q ∈ q_k65, x_Sim (x_K s0) none l q_y65 q_c65 5 (some .boolean) q_w65 q.1 q.2 := by
  intro q hq
  simp only [q_k65, List.mem_append] at hq
  rcases hq with h0 | h1
  · exact q_s65_0 l s0 q h0
  · exact q_s65_1 l s0 q h1
/-- ProofDesk$Deduction.copyAtom(II)Z -/
def q_k66_0 : List (Nat × xO) := [(0, x_lda 1 0), (1, x_gf 4 2 6), (4, x_ldi 5 1), (5, x_st (x_iclt 16 8)), (8, x_lda 9 0), (9, x_gf 12 2 6), (12, x_ldi 13 2), (13, x_st (x_iclt 30 16)), (16, x_lda 17 0), (17, x_gf 20 2 1), (20, x_ldi 21 1), (21, x_ldi 22 2), (22, x_lda 23 0), (23, x_gf 26 2 0), (26, x_cv 29 50 4 5), (29, x_ri (.boolean)), (30, x_lda 31 0), (31, x_gf 34 2 1), (34, x_ldi 35 1), (35, x_lda 36 0), (36, x_gf 39 2 6), (39, x_lda 40 0), (40, x_gf 43 2 0), (43, x_cv 46 50 4 5), (46, x_st (x_ifeq 108 49)), (49, x_lda 50 0), (50, x_gf 53 2 1), (53, x_lda 54 0), (54, x_gf 57 2 7), (57, x_lda 58 0), (58, x_gf 61 2 1), (61, x_lda 62 0), (62, x_gf 65 2 7), (65, x_cv 68 43 2 5), (68, x_lda 69 0), (69, x_gf 72 2 0), (72, x_cv 75 50 4 5), (75, x_st (x_ifeq 108 78)), (78, x_lda 79 0), (79, x_gf 82 2 1)]
set_option maxRecDepth 100000 in
set_option maxHeartbeats 4000000 in
theorem q_s66_0 (l : Launch) (s0 : State) : ∀ q ∈ q_k66_0, x_Sim (x_K s0) none l q_y66 q_c66 3 (some .boolean) q_w66 q.1 q.2 := by
  unfold q_k66_0
  refine List.forall_mem_cons.2 ⟨s_aload_n (k := 0) (by decide +kernel) rfl, ?_⟩
  refine List.forall_mem_cons.2 ⟨s_getfield (C := q_n2) (T := q_T2) (N := 8) (idx := 79) (ref := "ProofDesk$Deduction") (by decide +kernel) rfl q_in2 (by decide) (x_up mw_442) rfl, ?_⟩
  refine List.forall_mem_cons.2 ⟨s_iload_n (k := 1) (by decide +kernel) rfl, ?_⟩
  refine List.forall_mem_cons.2 ⟨s_icmp_lt (off := 11) (by decide +kernel) (by decide), ?_⟩
  refine List.forall_mem_cons.2 ⟨s_aload_n (k := 0) (by decide +kernel) rfl, ?_⟩
  refine List.forall_mem_cons.2 ⟨s_getfield (C := q_n2) (T := q_T2) (N := 8) (idx := 79) (ref := "ProofDesk$Deduction") (by decide +kernel) rfl q_in2 (by decide) (x_up mw_442) rfl, ?_⟩
  refine List.forall_mem_cons.2 ⟨s_iload_n (k := 2) (by decide +kernel) rfl, ?_⟩
  refine List.forall_mem_cons.2 ⟨s_icmp_lt (off := 17) (by decide +kernel) (by decide), ?_⟩
  refine List.forall_mem_cons.2 ⟨s_aload_n (k := 0) (by decide +kernel) rfl, ?_⟩
  refine List.forall_mem_cons.2 ⟨s_getfield (C := q_n2) (T := q_T2) (N := 8) (idx := 21) (ref := "ProofDesk$Deduction") (by decide +kernel) rfl q_in2 (by decide) (x_up mw_405) rfl, ?_⟩
  refine List.forall_mem_cons.2 ⟨s_iload_n (k := 1) (by decide +kernel) rfl, ?_⟩
  refine List.forall_mem_cons.2 ⟨s_iload_n (k := 2) (by decide +kernel) rfl, ?_⟩
  refine List.forall_mem_cons.2 ⟨s_aload_n (k := 0) (by decide +kernel) rfl, ?_⟩
  refine List.forall_mem_cons.2 ⟨s_getfield (C := q_n2) (T := q_T2) (N := 8) (idx := 12) (ref := "ProofDesk$Deduction") (by decide +kernel) rfl q_in2 (by decide) (x_up mw_399) rfl, ?_⟩
  refine List.forall_mem_cons.2 ⟨s_invokevirtual (idx := 131) (M := 50) (k := 3) (ci := 5) (C := q_n5) (T := q_T5) (N := 9) (ym := q_y50) (wm := q_w50) (by decide +kernel) rfl rfl rfl (x_gdV mw_474 mw_475 mw_476 mw_321 mw_473) rfl (by decide +kernel) (by decide), ?_⟩
  refine List.forall_mem_cons.2 ⟨s_ireturn (ty := .boolean) (by decide +kernel) rfl, ?_⟩
  refine List.forall_mem_cons.2 ⟨s_aload_n (k := 0) (by decide +kernel) rfl, ?_⟩
  refine List.forall_mem_cons.2 ⟨s_getfield (C := q_n2) (T := q_T2) (N := 8) (idx := 21) (ref := "ProofDesk$Deduction") (by decide +kernel) rfl q_in2 (by decide) (x_up mw_405) rfl, ?_⟩
  refine List.forall_mem_cons.2 ⟨s_iload_n (k := 1) (by decide +kernel) rfl, ?_⟩
  refine List.forall_mem_cons.2 ⟨s_aload_n (k := 0) (by decide +kernel) rfl, ?_⟩
  refine List.forall_mem_cons.2 ⟨s_getfield (C := q_n2) (T := q_T2) (N := 8) (idx := 79) (ref := "ProofDesk$Deduction") (by decide +kernel) rfl q_in2 (by decide) (x_up mw_442) rfl, ?_⟩
  refine List.forall_mem_cons.2 ⟨s_aload_n (k := 0) (by decide +kernel) rfl, ?_⟩
  refine List.forall_mem_cons.2 ⟨s_getfield (C := q_n2) (T := q_T2) (N := 8) (idx := 12) (ref := "ProofDesk$Deduction") (by decide +kernel) rfl q_in2 (by decide) (x_up mw_399) rfl, ?_⟩
  refine List.forall_mem_cons.2 ⟨s_invokevirtual (idx := 131) (M := 50) (k := 3) (ci := 5) (C := q_n5) (T := q_T5) (N := 9) (ym := q_y50) (wm := q_w50) (by decide +kernel) rfl rfl rfl (x_gdV mw_474 mw_475 mw_476 mw_321 mw_473) rfl (by decide +kernel) (by decide), ?_⟩
  refine List.forall_mem_cons.2 ⟨s_ifeq (off := 62) (by decide +kernel) (by decide), ?_⟩
  refine List.forall_mem_cons.2 ⟨s_aload_n (k := 0) (by decide +kernel) rfl, ?_⟩
  refine List.forall_mem_cons.2 ⟨s_getfield (C := q_n2) (T := q_T2) (N := 8) (idx := 21) (ref := "ProofDesk$Deduction") (by decide +kernel) rfl q_in2 (by decide) (x_up mw_405) rfl, ?_⟩
  refine List.forall_mem_cons.2 ⟨s_aload_n (k := 0) (by decide +kernel) rfl, ?_⟩
  refine List.forall_mem_cons.2 ⟨s_getfield (C := q_n2) (T := q_T2) (N := 8) (idx := 82) (ref := "ProofDesk$Deduction") (by decide +kernel) rfl q_in2 (by decide) (x_up mw_443) rfl, ?_⟩
  refine List.forall_mem_cons.2 ⟨s_aload_n (k := 0) (by decide +kernel) rfl, ?_⟩
  refine List.forall_mem_cons.2 ⟨s_getfield (C := q_n2) (T := q_T2) (N := 8) (idx := 21) (ref := "ProofDesk$Deduction") (by decide +kernel) rfl q_in2 (by decide) (x_up mw_405) rfl, ?_⟩
  refine List.forall_mem_cons.2 ⟨s_aload_n (k := 0) (by decide +kernel) rfl, ?_⟩
  refine List.forall_mem_cons.2 ⟨s_getfield (C := q_n2) (T := q_T2) (N := 8) (idx := 82) (ref := "ProofDesk$Deduction") (by decide +kernel) rfl q_in2 (by decide) (x_up mw_443) rfl, ?_⟩
  refine List.forall_mem_cons.2 ⟨s_invokevirtual (idx := 104) (M := 43) (k := 1) (ci := 5) (C := q_n5) (T := q_T5) (N := 9) (ym := q_y43) (wm := q_w43) (by decide +kernel) rfl rfl rfl (x_gdV mw_461 mw_350 mw_351 mw_321 mw_348) rfl (by decide +kernel) (by decide), ?_⟩
  refine List.forall_mem_cons.2 ⟨s_aload_n (k := 0) (by decide +kernel) rfl, ?_⟩
  refine List.forall_mem_cons.2 ⟨s_getfield (C := q_n2) (T := q_T2) (N := 8) (idx := 12) (ref := "ProofDesk$Deduction") (by decide +kernel) rfl q_in2 (by decide) (x_up mw_399) rfl, ?_⟩
  refine List.forall_mem_cons.2 ⟨s_invokevirtual (idx := 131) (M := 50) (k := 3) (ci := 5) (C := q_n5) (T := q_T5) (N := 9) (ym := q_y50) (wm := q_w50) (by decide +kernel) rfl rfl rfl (x_gdV mw_474 mw_475 mw_476 mw_321 mw_473) rfl (by decide +kernel) (by decide), ?_⟩
  refine List.forall_mem_cons.2 ⟨s_ifeq (off := 33) (by decide +kernel) (by decide), ?_⟩
  refine List.forall_mem_cons.2 ⟨s_aload_n (k := 0) (by decide +kernel) rfl, ?_⟩
  refine List.forall_mem_cons.2 ⟨s_getfield (C := q_n2) (T := q_T2) (N := 8) (idx := 21) (ref := "ProofDesk$Deduction") (by decide +kernel) rfl q_in2 (by decide) (x_up mw_405) rfl, ?_⟩
  exact fun _ h => absurd h List.not_mem_nil
def q_k66_1 : List (Nat × xO) := [(82, x_lda 83 0), (83, x_gf 86 2 1), (86, x_lda 87 0), (87, x_gf 90 2 6), (90, x_cv 93 43 2 5), (93, x_ldi 94 2), (94, x_lda 95 0), (95, x_gf 98 2 0), (98, x_cv 101 50 4 5), (101, x_st (x_ifeq 108 104)), (104, x_st (x_push 105 (.int (1)))), (105, x_st (x_goto 109)), (108, x_st (x_push 109 (.int (0)))), (109, x_ri (.boolean))]
set_option maxRecDepth 100000 in
set_option maxHeartbeats 4000000 in
theorem q_s66_1 (l : Launch) (s0 : State) : ∀ q ∈ q_k66_1, x_Sim (x_K s0) none l q_y66 q_c66 3 (some .boolean) q_w66 q.1 q.2 := by
  unfold q_k66_1
  refine List.forall_mem_cons.2 ⟨s_aload_n (k := 0) (by decide +kernel) rfl, ?_⟩
  refine List.forall_mem_cons.2 ⟨s_getfield (C := q_n2) (T := q_T2) (N := 8) (idx := 21) (ref := "ProofDesk$Deduction") (by decide +kernel) rfl q_in2 (by decide) (x_up mw_405) rfl, ?_⟩
  refine List.forall_mem_cons.2 ⟨s_aload_n (k := 0) (by decide +kernel) rfl, ?_⟩
  refine List.forall_mem_cons.2 ⟨s_getfield (C := q_n2) (T := q_T2) (N := 8) (idx := 79) (ref := "ProofDesk$Deduction") (by decide +kernel) rfl q_in2 (by decide) (x_up mw_442) rfl, ?_⟩
  refine List.forall_mem_cons.2 ⟨s_invokevirtual (idx := 104) (M := 43) (k := 1) (ci := 5) (C := q_n5) (T := q_T5) (N := 9) (ym := q_y43) (wm := q_w43) (by decide +kernel) rfl rfl rfl (x_gdV mw_461 mw_350 mw_351 mw_321 mw_348) rfl (by decide +kernel) (by decide), ?_⟩
  refine List.forall_mem_cons.2 ⟨s_iload_n (k := 2) (by decide +kernel) rfl, ?_⟩
  refine List.forall_mem_cons.2 ⟨s_aload_n (k := 0) (by decide +kernel) rfl, ?_⟩
  refine List.forall_mem_cons.2 ⟨s_getfield (C := q_n2) (T := q_T2) (N := 8) (idx := 12) (ref := "ProofDesk$Deduction") (by decide +kernel) rfl q_in2 (by decide) (x_up mw_399) rfl, ?_⟩
  refine List.forall_mem_cons.2 ⟨s_invokevirtual (idx := 131) (M := 50) (k := 3) (ci := 5) (C := q_n5) (T := q_T5) (N := 9) (ym := q_y50) (wm := q_w50) (by decide +kernel) rfl rfl rfl (x_gdV mw_474 mw_475 mw_476 mw_321 mw_473) rfl (by decide +kernel) (by decide), ?_⟩
  refine List.forall_mem_cons.2 ⟨s_ifeq (off := 7) (by decide +kernel) (by decide), ?_⟩
  refine List.forall_mem_cons.2 ⟨s_iconst (k := 1) (by decide +kernel) (by decide +kernel), ?_⟩
  refine List.forall_mem_cons.2 ⟨s_goto (off := 4) (by decide +kernel) (by decide), ?_⟩
  refine List.forall_mem_cons.2 ⟨s_iconst (k := 0) (by decide +kernel) (by decide +kernel), ?_⟩
  refine List.forall_mem_cons.2 ⟨s_ireturn (ty := .boolean) (by decide +kernel) rfl, ?_⟩
  exact fun _ h => absurd h List.not_mem_nil
def q_k66 : List (Nat × xO) := q_k66_0 ++ q_k66_1
theorem q_s66 (l : Launch) (s0 : State) : ∀ q ∈ q_k66, x_Sim (x_K s0) none l q_y66 q_c66 3 (some .boolean) q_w66 q.1 q.2 := by
  intro q hq
  simp only [q_k66, List.mem_append] at hq
  rcases hq with h0 | h1
  · exact q_s66_0 l s0 q h0
  · exact q_s66_1 l s0 q h1
/-- ProofDesk.<init>()V -/
def q_k67_0 : List (Nat × xO) := [(0, x_lda 1 0), (1, x_st (x_oi 4)), (4, x_lda 5 0), (5, x_nw_ 8 3 [.null, .int 0, .int 0]), (8, x_st (x_dup 9)), (9, x_cs 12 26 1), (12, x_pf 15 0 0 (.object "ProofDesk$Draft")), (15, x_lda 16 0), (16, x_st (x_push 18 (.int (30)))), (18, x_naq 21 4), (21, x_pf 24 0 1 (.array (.object "ProofDesk$Clause"))), (24, x_lda 25 0), (25, x_nw_ 28 7 [.null, .null]), (28, x_st (x_dup 29)), (29, x_cs 32 35 1), (32, x_pf 35 0 3 (.object "ProofDesk$Uses")), (35, x_lda 36 0), (36, x_nw_ 39 4 [.null, .null, .null, .int 0, .int 0, .int 0]), (39, x_st (x_dup 40)), (40, x_cs 43 8 1), (43, x_pf 46 0 4 (.object "ProofDesk$Form")), (46, x_lda 47 0), (47, x_nw_ 50 2 [.null, .null, .int 0, .int 0, .int 0, .int 0, .int 0, .int 0]), (50, x_st (x_dup 51)), (51, x_cs 54 58 1), (54, x_pf 57 0 7 (.object "ProofDesk$Deduction")), (57, x_lda 58 0), (58, x_nw_ 61 6 [.null, .null, .int 0]), (61, x_st (x_dup 62)), (62, x_cs 65 52 1), (65, x_pf 68 0 8 (.object "ProofDesk$Matcher")), (68, x_rv)]
set_option maxRecDepth 100000 in
set_option maxHeartbeats 4000000 in
theorem q_s67_0 (l : Launch) (s0 : State) : ∀ q ∈ q_k67_0, x_Sim (x_K s0) none l q_y67 q_c67 1 none q_w67 q.1 q.2 := by
  unfold q_k67_0
  refine List.forall_mem_cons.2 ⟨s_aload_n (k := 0) (by decide +kernel) rfl, ?_⟩
  refine List.forall_mem_cons.2 ⟨s_objInit (idx := 1) (by decide +kernel) (x_up mw_477) (x_up mw_100) (x_up mw_obj), ?_⟩
  refine List.forall_mem_cons.2 ⟨s_aload_n (k := 0) (by decide +kernel) rfl, ?_⟩
  refine List.forall_mem_cons.2 ⟨s_new (C := q_n3) (T := q_T3) (N := 3) (idx := 7) q_t3 (by decide +kernel) rfl q_in3 q_ty3 (x_up mw_478) (x_up mw_479) (x_up mw_249) rfl (by decide +kernel) rfl, ?_⟩
  refine List.forall_mem_cons.2 ⟨s_dup (by decide +kernel), ?_⟩
  refine List.forall_mem_cons.2 ⟨s_invokespecial (idx := 9) (M := 26) (k := 0) (ym := q_y26) (wm := q_w26) (by decide +kernel) rfl rfl (x_gd1 mw_480) (x_up mw_481) (x_up mw_482) (x_up mw_249) rfl rfl (by decide +kernel) (by decide), ?_⟩
  refine List.forall_mem_cons.2 ⟨s_putfieldF (C := q_n0) (T := q_T0) (N := 10) (idx := 10) q_t0 (by decide +kernel) rfl q_in0 q_ty0 q_nm0 (by decide) (x_up mw_483) rfl rfl (by decide +kernel) rfl, ?_⟩
  refine List.forall_mem_cons.2 ⟨s_aload_n (k := 0) (by decide +kernel) rfl, ?_⟩
  refine List.forall_mem_cons.2 ⟨s_bipush (k := 30) (by decide +kernel) (by decide +kernel), ?_⟩
  refine List.forall_mem_cons.2 ⟨s_anewarray (idx := 16) (C := "ProofDesk$Clause") (by decide +kernel) (x_up mw_484) x_nw0 rfl, ?_⟩
  refine List.forall_mem_cons.2 ⟨s_putfieldF (C := q_n0) (T := q_T0) (N := 10) (idx := 18) q_t0 (by decide +kernel) rfl q_in0 q_ty0 q_nm0 (by decide) (x_up mw_485) rfl rfl (by decide +kernel) rfl, ?_⟩
  refine List.forall_mem_cons.2 ⟨s_aload_n (k := 0) (by decide +kernel) rfl, ?_⟩
  refine List.forall_mem_cons.2 ⟨s_new (C := q_n7) (T := q_T7) (N := 2) (idx := 22) q_t7 (by decide +kernel) rfl q_in7 q_ty7 (x_up mw_486) (x_up mw_487) (x_up mw_298) rfl (by decide +kernel) rfl, ?_⟩
  refine List.forall_mem_cons.2 ⟨s_dup (by decide +kernel), ?_⟩
  refine List.forall_mem_cons.2 ⟨s_invokespecial (idx := 24) (M := 35) (k := 0) (ym := q_y35) (wm := q_w35) (by decide +kernel) rfl rfl (x_gd1 mw_488) (x_up mw_489) (x_up mw_490) (x_up mw_298) rfl rfl (by decide +kernel) (by decide), ?_⟩
  refine List.forall_mem_cons.2 ⟨s_putfieldF (C := q_n0) (T := q_T0) (N := 10) (idx := 25) q_t0 (by decide +kernel) rfl q_in0 q_ty0 q_nm0 (by decide) (x_up mw_491) rfl rfl (by decide +kernel) rfl, ?_⟩
  refine List.forall_mem_cons.2 ⟨s_aload_n (k := 0) (by decide +kernel) rfl, ?_⟩
  refine List.forall_mem_cons.2 ⟨s_new (C := q_n4) (T := q_T4) (N := 6) (idx := 29) q_t4 (by decide +kernel) rfl q_in4 q_ty4 (x_up mw_492) (x_up mw_395) (x_up mw_203) rfl (by decide +kernel) rfl, ?_⟩
  refine List.forall_mem_cons.2 ⟨s_dup (by decide +kernel), ?_⟩
  refine List.forall_mem_cons.2 ⟨s_invokespecial (idx := 31) (M := 8) (k := 0) (ym := q_y8) (wm := q_w8) (by decide +kernel) rfl rfl (x_gd1 mw_396) (x_up mw_493) (x_up mw_398) (x_up mw_203) rfl rfl (by decide +kernel) (by decide), ?_⟩
  refine List.forall_mem_cons.2 ⟨s_putfieldF (C := q_n0) (T := q_T0) (N := 10) (idx := 32) q_t0 (by decide +kernel) rfl q_in0 q_ty0 q_nm0 (by decide) (x_up mw_494) rfl rfl (by decide +kernel) rfl, ?_⟩
  refine List.forall_mem_cons.2 ⟨s_aload_n (k := 0) (by decide +kernel) rfl, ?_⟩
  refine List.forall_mem_cons.2 ⟨s_new (C := q_n2) (T := q_T2) (N := 8) (idx := 36) q_t2 (by decide +kernel) rfl q_in2 q_ty2 (x_up mw_495) (x_up mw_496) (x_up mw_422) rfl (by decide +kernel) rfl, ?_⟩
  refine List.forall_mem_cons.2 ⟨s_dup (by decide +kernel), ?_⟩
  refine List.forall_mem_cons.2 ⟨s_invokespecial (idx := 38) (M := 58) (k := 0) (ym := q_y58) (wm := q_w58) (by decide +kernel) rfl rfl (x_gd1 mw_497) (x_up mw_498) (x_up mw_499) (x_up mw_422) rfl rfl (by decide +kernel) (by decide), ?_⟩
  refine List.forall_mem_cons.2 ⟨s_putfieldF (C := q_n0) (T := q_T0) (N := 10) (idx := 39) q_t0 (by decide +kernel) rfl q_in0 q_ty0 q_nm0 (by decide) (x_up mw_500) rfl rfl (by decide +kernel) rfl, ?_⟩
  refine List.forall_mem_cons.2 ⟨s_aload_n (k := 0) (by decide +kernel) rfl, ?_⟩
  refine List.forall_mem_cons.2 ⟨s_new (C := q_n6) (T := q_T6) (N := 3) (idx := 43) q_t6 (by decide +kernel) rfl q_in6 q_ty6 (x_up mw_501) (x_up mw_502) (x_up mw_371) rfl (by decide +kernel) rfl, ?_⟩
  refine List.forall_mem_cons.2 ⟨s_dup (by decide +kernel), ?_⟩
  refine List.forall_mem_cons.2 ⟨s_invokespecial (idx := 45) (M := 52) (k := 0) (ym := q_y52) (wm := q_w52) (by decide +kernel) rfl rfl (x_gd1 mw_503) (x_up mw_504) (x_up mw_505) (x_up mw_371) rfl rfl (by decide +kernel) (by decide), ?_⟩
  refine List.forall_mem_cons.2 ⟨s_putfieldF (C := q_n0) (T := q_T0) (N := 10) (idx := 46) q_t0 (by decide +kernel) rfl q_in0 q_ty0 q_nm0 (by decide) (x_up mw_506) rfl rfl (by decide +kernel) rfl, ?_⟩
  refine List.forall_mem_cons.2 ⟨s_return (by decide +kernel) rfl, ?_⟩
  exact fun _ h => absurd h List.not_mem_nil
def q_k67 : List (Nat × xO) := q_k67_0
theorem q_s67 (l : Launch) (s0 : State) : ∀ q ∈ q_k67, x_Sim (x_K s0) none l q_y67 q_c67 1 none q_w67 q.1 q.2 := q_s67_0 l s0
/-- ProofDesk.write(C)Z -/
def q_k68_0 : List (Nat × xO) := [(0, x_lda 1 0), (1, x_gf 4 0 0), (4, x_ldi 5 1), (5, x_cv 8 27 2 3), (8, x_ri (.boolean))]
set_option maxRecDepth 100000 in
set_option maxHeartbeats 4000000 in
theorem q_s68_0 (l : Launch) (s0 : State) : ∀ q ∈ q_k68_0, x_Sim (x_K s0) none l q_y68 q_c68 2 (some .boolean) q_w68 q.1 q.2 := by
  unfold q_k68_0
  refine List.forall_mem_cons.2 ⟨s_aload_n (k := 0) (by decide +kernel) rfl, ?_⟩
  refine List.forall_mem_cons.2 ⟨s_getfield (C := q_n0) (T := q_T0) (N := 10) (idx := 10) (ref := "ProofDesk") (by decide +kernel) rfl q_in0 (by decide) (x_up mw_483) rfl, ?_⟩
  refine List.forall_mem_cons.2 ⟨s_iload_n (k := 1) (by decide +kernel) rfl, ?_⟩
  refine List.forall_mem_cons.2 ⟨s_invokevirtual (idx := 50) (M := 27) (k := 1) (ci := 3) (C := q_n3) (T := q_T3) (N := 3) (ym := q_y27) (wm := q_w27) (by decide +kernel) rfl rfl rfl (x_gdV mw_508 mw_509 mw_510 mw_249 mw_507) rfl (by decide +kernel) (by decide), ?_⟩
  refine List.forall_mem_cons.2 ⟨s_ireturn (ty := .boolean) (by decide +kernel) rfl, ?_⟩
  exact fun _ h => absurd h List.not_mem_nil
def q_k68 : List (Nat × xO) := q_k68_0
theorem q_s68 (l : Launch) (s0 : State) : ∀ q ∈ q_k68, x_Sim (x_K s0) none l q_y68 q_c68 2 (some .boolean) q_w68 q.1 q.2 := q_s68_0 l s0
/-- ProofDesk.given()I -/
def q_k69_0 : List (Nat × xO) := [(0, x_lda 1 0), (1, x_cv 4 82 1 0), (4, x_lda 5 0), (5, x_lda 6 0), (6, x_gf 9 0 6), (9, x_st (x_ifne 26 12)), (12, x_lda 13 0), (13, x_gf 16 0 2), (16, x_st (x_push 18 (.int (30)))), (18, x_st (x_iclt 26 21)), (21, x_st (x_push 23 (.int (-3)))), (23, x_st (x_goto 30)), (26, x_lda 27 0), (27, x_gf 30 0 6), (30, x_pf 33 0 9 (.int)), (33, x_lda 34 0), (34, x_gf 37 0 9), (37, x_st (x_push 39 (.int (-3)))), (39, x_st (x_icne 52 42)), (42, x_thr 10), (45, x_st (x_dup 46)), (46, fun _ _ => none), (48, fun _ _ => none), (51, fun _ _ => none), (52, x_lda 53 0), (53, x_gf 56 0 9), (56, x_st (x_ifeq 69 59)), (59, x_thr 9), (62, x_st (x_dup 63)), (63, fun _ _ => none), (65, fun _ _ => none), (68, fun _ _ => none), (69, x_lda 70 0), (70, x_lda 71 0), (71, x_gf 74 0 4), (74, x_st (x_push 75 (.int (0)))), (75, x_st (x_push 76 (.int (1)))), (76, x_lda 77 0), (77, x_gf 80 0 2), (80, x_st (x_bin 81 (fun a b => a <<< (b &&& 31))))]
set_option maxRecDepth 100000 in
set_option maxHeartbeats 4000000 in
theorem q_s69_0 (l : Launch) (s0 : State) (hl : l.stackTraces = false) (hE : ∀ w ∈ x_ew, w.before #[] s0 = true) (hS : ∀ w ∈ x_ss, w.before #[] s0 = true) : ∀ q ∈ q_k69_0, x_Sim (x_K s0) none l q_y69 q_c69 1 (some .int) q_w69 q.1 q.2 := by
  unfold q_k69_0
  refine List.forall_mem_cons.2 ⟨s_aload_n (k := 0) (by decide +kernel) rfl, ?_⟩
  refine List.forall_mem_cons.2 ⟨s_invokevirtual (idx := 54) (M := 82) (k := 0) (ci := 0) (C := q_n0) (T := q_T0) (N := 10) (ym := q_y82) (wm := q_w82) (by decide +kernel) rfl rfl rfl (x_gdV mw_512 mw_513 mw_514 mw_408 mw_511) rfl (by decide +kernel) (by decide), ?_⟩
  refine List.forall_mem_cons.2 ⟨s_aload_n (k := 0) (by decide +kernel) rfl, ?_⟩
  refine List.forall_mem_cons.2 ⟨s_aload_n (k := 0) (by decide +kernel) rfl, ?_⟩
  refine List.forall_mem_cons.2 ⟨s_getfield (C := q_n0) (T := q_T0) (N := 10) (idx := 57) (ref := "ProofDesk") (by decide +kernel) rfl q_in0 (by decide) (x_up mw_515) rfl, ?_⟩
  refine List.forall_mem_cons.2 ⟨s_ifne (off := 17) (by decide +kernel) (by decide), ?_⟩
  refine List.forall_mem_cons.2 ⟨s_aload_n (k := 0) (by decide +kernel) rfl, ?_⟩
  refine List.forall_mem_cons.2 ⟨s_getfield (C := q_n0) (T := q_T0) (N := 10) (idx := 61) (ref := "ProofDesk") (by decide +kernel) rfl q_in0 (by decide) (x_up mw_516) rfl, ?_⟩
  refine List.forall_mem_cons.2 ⟨s_bipush (k := 30) (by decide +kernel) (by decide +kernel), ?_⟩
  refine List.forall_mem_cons.2 ⟨s_icmp_lt (off := 8) (by decide +kernel) (by decide), ?_⟩
  refine List.forall_mem_cons.2 ⟨s_bipush (k := -3) (by decide +kernel) (by decide +kernel), ?_⟩
  refine List.forall_mem_cons.2 ⟨s_goto (off := 7) (by decide +kernel) (by decide), ?_⟩
  refine List.forall_mem_cons.2 ⟨s_aload_n (k := 0) (by decide +kernel) rfl, ?_⟩
  refine List.forall_mem_cons.2 ⟨s_getfield (C := q_n0) (T := q_T0) (N := 10) (idx := 57) (ref := "ProofDesk") (by decide +kernel) rfl q_in0 (by decide) (x_up mw_515) rfl, ?_⟩
  refine List.forall_mem_cons.2 ⟨s_putfield (C := q_n0) (T := q_T0) (N := 10) (idx := 64) (ref := "ProofDesk") q_t0 (by decide +kernel) rfl q_in0 q_ty0 q_nm0 (by decide) (x_up mw_517) rfl rfl (by decide +kernel), ?_⟩
  refine List.forall_mem_cons.2 ⟨s_aload_n (k := 0) (by decide +kernel) rfl, ?_⟩
  refine List.forall_mem_cons.2 ⟨s_getfield (C := q_n0) (T := q_T0) (N := 10) (idx := 64) (ref := "ProofDesk") (by decide +kernel) rfl q_in0 (by decide) (x_up mw_517) rfl, ?_⟩
  refine List.forall_mem_cons.2 ⟨s_bipush (k := -3) (by decide +kernel) (by decide +kernel), ?_⟩
  refine List.forall_mem_cons.2 ⟨s_icmp_ne (off := 13) (by decide +kernel) (by decide), ?_⟩
  refine List.forall_mem_cons.2 ⟨s_throw (ia := 67) (ib := 69) (ic := 71) (i1 := 7) (b1 := prog_16_method_2_code) rfl hl hE (hS _ x_ss0) (by decide +kernel) (by decide +kernel) (by decide +kernel) (by decide +kernel) (by decide +kernel) x_at1 (x_up mw_518) (x_up mw_519) (x_up mw_140) rfl (by decide +kernel) (by decide +kernel) (by decide +kernel) (by decide +kernel) (by decide +kernel), ?_⟩
  refine List.forall_mem_cons.2 ⟨s_dup (by decide +kernel), ?_⟩
  refine List.forall_mem_cons.2 ⟨s_bad, ?_⟩
  refine List.forall_mem_cons.2 ⟨s_bad, ?_⟩
  refine List.forall_mem_cons.2 ⟨s_bad, ?_⟩
  refine List.forall_mem_cons.2 ⟨s_aload_n (k := 0) (by decide +kernel) rfl, ?_⟩
  refine List.forall_mem_cons.2 ⟨s_getfield (C := q_n0) (T := q_T0) (N := 10) (idx := 64) (ref := "ProofDesk") (by decide +kernel) rfl q_in0 (by decide) (x_up mw_517) rfl, ?_⟩
  refine List.forall_mem_cons.2 ⟨s_ifeq (off := 13) (by decide +kernel) (by decide), ?_⟩
  refine List.forall_mem_cons.2 ⟨s_throw (ia := 74) (ib := 76) (ic := 78) (i1 := 7) (b1 := prog_15_method_2_code) rfl hl hE (hS _ x_ss1) (by decide +kernel) (by decide +kernel) (by decide +kernel) (by decide +kernel) (by decide +kernel) x_at0 (x_up mw_520) (x_up mw_521) (x_up mw_126) rfl (by decide +kernel) (by decide +kernel) (by decide +kernel) (by decide +kernel) (by decide +kernel), ?_⟩
  refine List.forall_mem_cons.2 ⟨s_dup (by decide +kernel), ?_⟩
  refine List.forall_mem_cons.2 ⟨s_bad, ?_⟩
  refine List.forall_mem_cons.2 ⟨s_bad, ?_⟩
  refine List.forall_mem_cons.2 ⟨s_bad, ?_⟩
  refine List.forall_mem_cons.2 ⟨s_aload_n (k := 0) (by decide +kernel) rfl, ?_⟩
  refine List.forall_mem_cons.2 ⟨s_aload_n (k := 0) (by decide +kernel) rfl, ?_⟩
  refine List.forall_mem_cons.2 ⟨s_getfield (C := q_n0) (T := q_T0) (N := 10) (idx := 32) (ref := "ProofDesk") (by decide +kernel) rfl q_in0 (by decide) (x_up mw_494) rfl, ?_⟩
  refine List.forall_mem_cons.2 ⟨s_iconst (k := 0) (by decide +kernel) (by decide +kernel), ?_⟩
  refine List.forall_mem_cons.2 ⟨s_iconst (k := 1) (by decide +kernel) (by decide +kernel), ?_⟩
  refine List.forall_mem_cons.2 ⟨s_aload_n (k := 0) (by decide +kernel) rfl, ?_⟩
  refine List.forall_mem_cons.2 ⟨s_getfield (C := q_n0) (T := q_T0) (N := 10) (idx := 61) (ref := "ProofDesk") (by decide +kernel) rfl q_in0 (by decide) (x_up mw_516) rfl, ?_⟩
  refine List.forall_mem_cons.2 ⟨s_ishl (by decide +kernel), ?_⟩
  exact fun _ h => absurd h List.not_mem_nil
def q_k69_1 : List (Nat × xO) := [(81, x_cv 84 88 4 0), (84, x_lda 85 0), (85, x_gf 88 0 2), (88, x_st (x_push 89 (.int (1)))), (89, x_st (x_bin 90 (fun a b => a - b))), (90, x_ri (.int))]
set_option maxRecDepth 100000 in
set_option maxHeartbeats 4000000 in
theorem q_s69_1 (l : Launch) (s0 : State) (hl : l.stackTraces = false) (hE : ∀ w ∈ x_ew, w.before #[] s0 = true) (hS : ∀ w ∈ x_ss, w.before #[] s0 = true) : ∀ q ∈ q_k69_1, x_Sim (x_K s0) none l q_y69 q_c69 1 (some .int) q_w69 q.1 q.2 := by
  unfold q_k69_1
  refine List.forall_mem_cons.2 ⟨s_invokevirtual (idx := 79) (M := 88) (k := 3) (ci := 0) (C := q_n0) (T := q_T0) (N := 10) (ym := q_y88) (wm := q_w88) (by decide +kernel) rfl rfl rfl (x_gdV mw_523 mw_524 mw_525 mw_408 mw_522) rfl (by decide +kernel) (by decide), ?_⟩
  refine List.forall_mem_cons.2 ⟨s_aload_n (k := 0) (by decide +kernel) rfl, ?_⟩
  refine List.forall_mem_cons.2 ⟨s_getfield (C := q_n0) (T := q_T0) (N := 10) (idx := 61) (ref := "ProofDesk") (by decide +kernel) rfl q_in0 (by decide) (x_up mw_516) rfl, ?_⟩
  refine List.forall_mem_cons.2 ⟨s_iconst (k := 1) (by decide +kernel) (by decide +kernel), ?_⟩
  refine List.forall_mem_cons.2 ⟨s_isub (by decide +kernel), ?_⟩
  refine List.forall_mem_cons.2 ⟨s_ireturn (ty := .int) (by decide +kernel) rfl, ?_⟩
  exact fun _ h => absurd h List.not_mem_nil
def q_k69 : List (Nat × xO) := q_k69_0 ++ q_k69_1
theorem q_s69 (l : Launch) (s0 : State) (hl : l.stackTraces = false) (hE : ∀ w ∈ x_ew, w.before #[] s0 = true) (hS : ∀ w ∈ x_ss, w.before #[] s0 = true) : ∀ q ∈ q_k69, x_Sim (x_K s0) none l q_y69 q_c69 1 (some .int) q_w69 q.1 q.2 := by
  intro q hq
  simp only [q_k69, List.mem_append] at hq
  rcases hq with h0 | h1
  · exact q_s69_0 l s0 hl hE hS q h0
  · exact q_s69_1 l s0 hl hE hS q h1
/-- ProofDesk.step(IIIIII)I -/
def q_k70_0 : List (Nat × xO) := [(0, x_lda 1 0), (1, x_cv 4 82 1 0), (4, x_lda 5 0), (5, x_lda 6 0), (6, x_ldi 7 1), (7, x_ldi 8 2), (8, x_ldi 9 3), (9, x_ldi 11 4), (11, x_ldi 13 5), (13, x_ldi 15 6), (15, x_cv 18 83 7 0), (18, x_pf 21 0 9 (.int)), (21, x_lda 22 0), (22, x_gf 25 0 9), (25, x_st (x_push 27 (.int (-3)))), (27, x_st (x_icne 40 30)), (30, x_thr 10), (33, x_st (x_dup 34)), (34, fun _ _ => none), (36, fun _ _ => none), (39, fun _ _ => none), (40, x_lda 41 0), (41, x_gf 44 0 9), (44, x_st (x_push 46 (.int (-4)))), (46, x_st (x_icne 59 49)), (49, x_thr 11), (52, x_st (x_dup 53)), (53, fun _ _ => none), (55, fun _ _ => none), (58, fun _ _ => none), (59, x_lda 60 0), (60, x_gf 63 0 9), (63, x_st (x_push 64 (.int (-1)))), (64, x_st (x_iceq 76 67)), (67, x_lda 68 0), (68, x_gf 71 0 9), (71, x_st (x_push 73 (.int (-2)))), (73, x_st (x_icne 86 76)), (76, x_thr 9), (79, x_st (x_dup 80))]
set_option maxRecDepth 100000 in
set_option maxHeartbeats 4000000 in
theorem q_s70_0 (l : Launch) (s0 : State) (hl : l.stackTraces = false) (hE : ∀ w ∈ x_ew, w.before #[] s0 = true) (hS : ∀ w ∈ x_ss, w.before #[] s0 = true) : ∀ q ∈ q_k70_0, x_Sim (x_K s0) none l q_y70 q_c70 7 (some .int) q_w70 q.1 q.2 := by
  unfold q_k70_0
  refine List.forall_mem_cons.2 ⟨s_aload_n (k := 0) (by decide +kernel) rfl, ?_⟩
  refine List.forall_mem_cons.2 ⟨s_invokevirtual (idx := 54) (M := 82) (k := 0) (ci := 0) (C := q_n0) (T := q_T0) (N := 10) (ym := q_y82) (wm := q_w82) (by decide +kernel) rfl rfl rfl (x_gdV mw_512 mw_513 mw_514 mw_408 mw_511) rfl (by decide +kernel) (by decide), ?_⟩
  refine List.forall_mem_cons.2 ⟨s_aload_n (k := 0) (by decide +kernel) rfl, ?_⟩
  refine List.forall_mem_cons.2 ⟨s_aload_n (k := 0) (by decide +kernel) rfl, ?_⟩
  refine List.forall_mem_cons.2 ⟨s_iload_n (k := 1) (by decide +kernel) rfl, ?_⟩
  refine List.forall_mem_cons.2 ⟨s_iload_n (k := 2) (by decide +kernel) rfl, ?_⟩
  refine List.forall_mem_cons.2 ⟨s_iload_n (k := 3) (by decide +kernel) rfl, ?_⟩
  refine List.forall_mem_cons.2 ⟨s_iload (by decide +kernel), ?_⟩
  refine List.forall_mem_cons.2 ⟨s_iload (by decide +kernel), ?_⟩
  refine List.forall_mem_cons.2 ⟨s_iload (by decide +kernel), ?_⟩
  refine List.forall_mem_cons.2 ⟨s_invokevirtual (idx := 83) (M := 83) (k := 6) (ci := 0) (C := q_n0) (T := q_T0) (N := 10) (ym := q_y83) (wm := q_w83) (by decide +kernel) rfl rfl rfl (x_gdV mw_527 mw_528 mw_529 mw_408 mw_526) rfl (by decide +kernel) (by decide), ?_⟩
  refine List.forall_mem_cons.2 ⟨s_putfield (C := q_n0) (T := q_T0) (N := 10) (idx := 64) (ref := "ProofDesk") q_t0 (by decide +kernel) rfl q_in0 q_ty0 q_nm0 (by decide) (x_up mw_517) rfl rfl (by decide +kernel), ?_⟩
  refine List.forall_mem_cons.2 ⟨s_aload_n (k := 0) (by decide +kernel) rfl, ?_⟩
  refine List.forall_mem_cons.2 ⟨s_getfield (C := q_n0) (T := q_T0) (N := 10) (idx := 64) (ref := "ProofDesk") (by decide +kernel) rfl q_in0 (by decide) (x_up mw_517) rfl, ?_⟩
  refine List.forall_mem_cons.2 ⟨s_bipush (k := -3) (by decide +kernel) (by decide +kernel), ?_⟩
  refine List.forall_mem_cons.2 ⟨s_icmp_ne (off := 13) (by decide +kernel) (by decide), ?_⟩
  refine List.forall_mem_cons.2 ⟨s_throw (ia := 67) (ib := 69) (ic := 71) (i1 := 7) (b1 := prog_16_method_2_code) rfl hl hE (hS _ x_ss0) (by decide +kernel) (by decide +kernel) (by decide +kernel) (by decide +kernel) (by decide +kernel) x_at1 (x_up mw_518) (x_up mw_519) (x_up mw_140) rfl (by decide +kernel) (by decide +kernel) (by decide +kernel) (by decide +kernel) (by decide +kernel), ?_⟩
  refine List.forall_mem_cons.2 ⟨s_dup (by decide +kernel), ?_⟩
  refine List.forall_mem_cons.2 ⟨s_bad, ?_⟩
  refine List.forall_mem_cons.2 ⟨s_bad, ?_⟩
  refine List.forall_mem_cons.2 ⟨s_bad, ?_⟩
  refine List.forall_mem_cons.2 ⟨s_aload_n (k := 0) (by decide +kernel) rfl, ?_⟩
  refine List.forall_mem_cons.2 ⟨s_getfield (C := q_n0) (T := q_T0) (N := 10) (idx := 64) (ref := "ProofDesk") (by decide +kernel) rfl q_in0 (by decide) (x_up mw_517) rfl, ?_⟩
  refine List.forall_mem_cons.2 ⟨s_bipush (k := -4) (by decide +kernel) (by decide +kernel), ?_⟩
  refine List.forall_mem_cons.2 ⟨s_icmp_ne (off := 13) (by decide +kernel) (by decide), ?_⟩
  refine List.forall_mem_cons.2 ⟨s_throw (ia := 87) (ib := 89) (ic := 91) (i1 := 13) (b1 := prog_27_method_4_code) rfl hl hE (hS _ x_ss3) (by decide +kernel) (by decide +kernel) (by decide +kernel) (by decide +kernel) (by decide +kernel) x_at2 (x_up mw_530) (x_up mw_531) (x_up mw_152) rfl (by decide +kernel) (by decide +kernel) (by decide +kernel) (by decide +kernel) (by decide +kernel), ?_⟩
  refine List.forall_mem_cons.2 ⟨s_dup (by decide +kernel), ?_⟩
  refine List.forall_mem_cons.2 ⟨s_bad, ?_⟩
  refine List.forall_mem_cons.2 ⟨s_bad, ?_⟩
  refine List.forall_mem_cons.2 ⟨s_bad, ?_⟩
  refine List.forall_mem_cons.2 ⟨s_aload_n (k := 0) (by decide +kernel) rfl, ?_⟩
  refine List.forall_mem_cons.2 ⟨s_getfield (C := q_n0) (T := q_T0) (N := 10) (idx := 64) (ref := "ProofDesk") (by decide +kernel) rfl q_in0 (by decide) (x_up mw_517) rfl, ?_⟩
  refine List.forall_mem_cons.2 ⟨s_iconst (k := -1) (by decide +kernel) (by decide +kernel), ?_⟩
  refine List.forall_mem_cons.2 ⟨s_icmp_eq (off := 12) (by decide +kernel) (by decide), ?_⟩
  refine List.forall_mem_cons.2 ⟨s_aload_n (k := 0) (by decide +kernel) rfl, ?_⟩
  refine List.forall_mem_cons.2 ⟨s_getfield (C := q_n0) (T := q_T0) (N := 10) (idx := 64) (ref := "ProofDesk") (by decide +kernel) rfl q_in0 (by decide) (x_up mw_517) rfl, ?_⟩
  refine List.forall_mem_cons.2 ⟨s_bipush (k := -2) (by decide +kernel) (by decide +kernel), ?_⟩
  refine List.forall_mem_cons.2 ⟨s_icmp_ne (off := 13) (by decide +kernel) (by decide), ?_⟩
  refine List.forall_mem_cons.2 ⟨s_throw (ia := 74) (ib := 92) (ic := 78) (i1 := 7) (b1 := prog_15_method_2_code) rfl hl hE (hS _ x_ss4) (by decide +kernel) (by decide +kernel) (by decide +kernel) (by decide +kernel) (by decide +kernel) x_at0 (x_up mw_520) (x_up mw_521) (x_up mw_126) rfl (by decide +kernel) (by decide +kernel) (by decide +kernel) (by decide +kernel) (by decide +kernel), ?_⟩
  refine List.forall_mem_cons.2 ⟨s_dup (by decide +kernel), ?_⟩
  exact fun _ h => absurd h List.not_mem_nil
def q_k70_1 : List (Nat × xO) := [(80, fun _ _ => none), (82, fun _ _ => none), (85, fun _ _ => none), (86, x_lda 87 0), (87, x_gf 90 0 9), (90, x_st (x_ifeq 103 93)), (93, x_thr 12), (96, x_st (x_dup 97)), (97, fun _ _ => none), (99, fun _ _ => none), (102, fun _ _ => none), (103, x_lda 104 0), (104, x_gf 107 0 2), (107, x_st (x_push 108 (.int (1)))), (108, x_st (x_bin 109 (fun a b => a - b))), (109, x_ri (.int))]
set_option maxRecDepth 100000 in
set_option maxHeartbeats 4000000 in
theorem q_s70_1 (l : Launch) (s0 : State) (hl : l.stackTraces = false) (hE : ∀ w ∈ x_ew, w.before #[] s0 = true) (hS : ∀ w ∈ x_ss, w.before #[] s0 = true) : ∀ q ∈ q_k70_1, x_Sim (x_K s0) none l q_y70 q_c70 7 (some .int) q_w70 q.1 q.2 := by
  unfold q_k70_1
  refine List.forall_mem_cons.2 ⟨s_bad, ?_⟩
  refine List.forall_mem_cons.2 ⟨s_bad, ?_⟩
  refine List.forall_mem_cons.2 ⟨s_bad, ?_⟩
  refine List.forall_mem_cons.2 ⟨s_aload_n (k := 0) (by decide +kernel) rfl, ?_⟩
  refine List.forall_mem_cons.2 ⟨s_getfield (C := q_n0) (T := q_T0) (N := 10) (idx := 64) (ref := "ProofDesk") (by decide +kernel) rfl q_in0 (by decide) (x_up mw_517) rfl, ?_⟩
  refine List.forall_mem_cons.2 ⟨s_ifeq (off := 13) (by decide +kernel) (by decide), ?_⟩
  refine List.forall_mem_cons.2 ⟨s_throw (ia := 94) (ib := 96) (ic := 98) (i1 := 7) (b1 := prog_25_method_2_code) rfl hl hE (hS _ x_ss5) (by decide +kernel) (by decide +kernel) (by decide +kernel) (by decide +kernel) (by decide +kernel) x_at3 (x_up mw_532) (x_up mw_533) (x_up mw_164) rfl (by decide +kernel) (by decide +kernel) (by decide +kernel) (by decide +kernel) (by decide +kernel), ?_⟩
  refine List.forall_mem_cons.2 ⟨s_dup (by decide +kernel), ?_⟩
  refine List.forall_mem_cons.2 ⟨s_bad, ?_⟩
  refine List.forall_mem_cons.2 ⟨s_bad, ?_⟩
  refine List.forall_mem_cons.2 ⟨s_bad, ?_⟩
  refine List.forall_mem_cons.2 ⟨s_aload_n (k := 0) (by decide +kernel) rfl, ?_⟩
  refine List.forall_mem_cons.2 ⟨s_getfield (C := q_n0) (T := q_T0) (N := 10) (idx := 61) (ref := "ProofDesk") (by decide +kernel) rfl q_in0 (by decide) (x_up mw_516) rfl, ?_⟩
  refine List.forall_mem_cons.2 ⟨s_iconst (k := 1) (by decide +kernel) (by decide +kernel), ?_⟩
  refine List.forall_mem_cons.2 ⟨s_isub (by decide +kernel), ?_⟩
  refine List.forall_mem_cons.2 ⟨s_ireturn (ty := .int) (by decide +kernel) rfl, ?_⟩
  exact fun _ h => absurd h List.not_mem_nil
def q_k70 : List (Nat × xO) := q_k70_0 ++ q_k70_1
theorem q_s70 (l : Launch) (s0 : State) (hl : l.stackTraces = false) (hE : ∀ w ∈ x_ew, w.before #[] s0 = true) (hS : ∀ w ∈ x_ss, w.before #[] s0 = true) : ∀ q ∈ q_k70, x_Sim (x_K s0) none l q_y70 q_c70 7 (some .int) q_w70 q.1 q.2 := by
  intro q hq
  simp only [q_k70, List.mem_append] at hq
  rcases hq with h0 | h1
  · exact q_s70_0 l s0 hl hE hS q h0
  · exact q_s70_1 l s0 hl hE hS q h1
/-- ProofDesk.fault()I -/
def q_k71_0 : List (Nat × xO) := [(0, x_lda 1 0), (1, x_gf 4 0 9), (4, x_ri (.int))]
set_option maxRecDepth 100000 in
set_option maxHeartbeats 4000000 in
theorem q_s71_0 (l : Launch) (s0 : State) : ∀ q ∈ q_k71_0, x_Sim (x_K s0) none l q_y71 q_c71 1 (some .int) q_w71 q.1 q.2 := by
  unfold q_k71_0
  refine List.forall_mem_cons.2 ⟨s_aload_n (k := 0) (by decide +kernel) rfl, ?_⟩
  refine List.forall_mem_cons.2 ⟨s_getfield (C := q_n0) (T := q_T0) (N := 10) (idx := 64) (ref := "ProofDesk") (by decide +kernel) rfl q_in0 (by decide) (x_up mw_517) rfl, ?_⟩
  refine List.forall_mem_cons.2 ⟨s_ireturn (ty := .int) (by decide +kernel) rfl, ?_⟩
  exact fun _ h => absurd h List.not_mem_nil
def q_k71 : List (Nat × xO) := q_k71_0
theorem q_s71 (l : Launch) (s0 : State) : ∀ q ∈ q_k71, x_Sim (x_K s0) none l q_y71 q_c71 1 (some .int) q_w71 q.1 q.2 := q_s71_0 l s0
/-- ProofDesk.clauses()I -/
def q_k72_0 : List (Nat × xO) := [(0, x_lda 1 0), (1, x_gf 4 0 2), (4, x_ri (.int))]
set_option maxRecDepth 100000 in
set_option maxHeartbeats 4000000 in
theorem q_s72_0 (l : Launch) (s0 : State) : ∀ q ∈ q_k72_0, x_Sim (x_K s0) none l q_y72 q_c72 1 (some .int) q_w72 q.1 q.2 := by
  unfold q_k72_0
  refine List.forall_mem_cons.2 ⟨s_aload_n (k := 0) (by decide +kernel) rfl, ?_⟩
  refine List.forall_mem_cons.2 ⟨s_getfield (C := q_n0) (T := q_T0) (N := 10) (idx := 61) (ref := "ProofDesk") (by decide +kernel) rfl q_in0 (by decide) (x_up mw_516) rfl, ?_⟩
  refine List.forall_mem_cons.2 ⟨s_ireturn (ty := .int) (by decide +kernel) rfl, ?_⟩
  exact fun _ h => absurd h List.not_mem_nil
def q_k72 : List (Nat × xO) := q_k72_0
theorem q_s72 (l : Launch) (s0 : State) : ∀ q ∈ q_k72, x_Sim (x_K s0) none l q_y72 q_c72 1 (some .int) q_w72 q.1 q.2 := q_s72_0 l s0
/-- ProofDesk.literals(I)I -/
def q_k73_0 : List (Nat × xO) := [(0, x_lda 1 0), (1, x_ldi 2 1), (2, x_cv 5 81 2 0), (5, x_sta 6 2), (6, x_lda 7 2), (7, x_st (x_ifnonnull 14 10)), (10, x_st (x_push 11 (.int (-1)))), (11, x_st (x_goto 21)), (14, x_lda 15 2), (15, x_gf 18 1 0), (18, x_gf 21 4 3), (21, x_ri (.int))]
set_option maxRecDepth 100000 in
set_option maxHeartbeats 4000000 in
theorem q_s73_0 (l : Launch) (s0 : State) : ∀ q ∈ q_k73_0, x_Sim (x_K s0) none l q_y73 q_c73 3 (some .int) q_w73 q.1 q.2 := by
  unfold q_k73_0
  refine List.forall_mem_cons.2 ⟨s_aload_n (k := 0) (by decide +kernel) rfl, ?_⟩
  refine List.forall_mem_cons.2 ⟨s_iload_n (k := 1) (by decide +kernel) rfl, ?_⟩
  refine List.forall_mem_cons.2 ⟨s_invokevirtual (idx := 99) (M := 81) (k := 1) (ci := 0) (C := q_n0) (T := q_T0) (N := 10) (ym := q_y81) (wm := q_w81) (by decide +kernel) rfl rfl rfl (x_gdV mw_535 mw_536 mw_537 mw_408 mw_534) rfl (by decide +kernel) (by decide), ?_⟩
  refine List.forall_mem_cons.2 ⟨s_astore_n (k := 2) (by decide +kernel) rfl (by decide), ?_⟩
  refine List.forall_mem_cons.2 ⟨s_aload_n (k := 2) (by decide +kernel) rfl, ?_⟩
  refine List.forall_mem_cons.2 ⟨s_ifnonnull (off := 7) (by decide +kernel) (by decide), ?_⟩
  refine List.forall_mem_cons.2 ⟨s_iconst (k := -1) (by decide +kernel) (by decide +kernel), ?_⟩
  refine List.forall_mem_cons.2 ⟨s_goto (off := 10) (by decide +kernel) (by decide), ?_⟩
  refine List.forall_mem_cons.2 ⟨s_aload_n (k := 2) (by decide +kernel) rfl, ?_⟩
  refine List.forall_mem_cons.2 ⟨s_getfield (C := q_n1) (T := q_T1) (N := 4) (idx := 103) (ref := "ProofDesk$Clause") (by decide +kernel) rfl q_in1 (by decide) (x_up mw_538) rfl, ?_⟩
  refine List.forall_mem_cons.2 ⟨s_getfield (C := q_n4) (T := q_T4) (N := 6) (idx := 106) (ref := "ProofDesk$Form") (by decide +kernel) rfl q_in4 (by decide) (x_up mw_539) rfl, ?_⟩
  refine List.forall_mem_cons.2 ⟨s_ireturn (ty := .int) (by decide +kernel) rfl, ?_⟩
  exact fun _ h => absurd h List.not_mem_nil
def q_k73 : List (Nat × xO) := q_k73_0
theorem q_s73 (l : Launch) (s0 : State) : ∀ q ∈ q_k73, x_Sim (x_K s0) none l q_y73 q_c73 3 (some .int) q_w73 q.1 q.2 := q_s73_0 l s0
/-- ProofDesk.size(I)I -/
def q_k74_0 : List (Nat × xO) := [(0, x_lda 1 0), (1, x_ldi 2 1), (2, x_cv 5 81 2 0), (5, x_sta 6 2), (6, x_lda 7 2), (7, x_st (x_ifnonnull 14 10)), (10, x_st (x_push 11 (.int (-1)))), (11, x_st (x_goto 21)), (14, x_lda 15 2), (15, x_gf 18 1 0), (18, x_gf 21 4 4), (21, x_ri (.int))]
set_option maxRecDepth 100000 in
set_option maxHeartbeats 4000000 in
theorem q_s74_0 (l : Launch) (s0 : State) : ∀ q ∈ q_k74_0, x_Sim (x_K s0) none l q_y74 q_c74 3 (some .int) q_w74 q.1 q.2 := by
  unfold q_k74_0
  refine List.forall_mem_cons.2 ⟨s_aload_n (k := 0) (by decide +kernel) rfl, ?_⟩
  refine List.forall_mem_cons.2 ⟨s_iload_n (k := 1) (by decide +kernel) rfl, ?_⟩
  refine List.forall_mem_cons.2 ⟨s_invokevirtual (idx := 99) (M := 81) (k := 1) (ci := 0) (C := q_n0) (T := q_T0) (N := 10) (ym := q_y81) (wm := q_w81) (by decide +kernel) rfl rfl rfl (x_gdV mw_535 mw_536 mw_537 mw_408 mw_534) rfl (by decide +kernel) (by decide), ?_⟩
  refine List.forall_mem_cons.2 ⟨s_astore_n (k := 2) (by decide +kernel) rfl (by decide), ?_⟩
  refine List.forall_mem_cons.2 ⟨s_aload_n (k := 2) (by decide +kernel) rfl, ?_⟩
  refine List.forall_mem_cons.2 ⟨s_ifnonnull (off := 7) (by decide +kernel) (by decide), ?_⟩
  refine List.forall_mem_cons.2 ⟨s_iconst (k := -1) (by decide +kernel) (by decide +kernel), ?_⟩
  refine List.forall_mem_cons.2 ⟨s_goto (off := 10) (by decide +kernel) (by decide), ?_⟩
  refine List.forall_mem_cons.2 ⟨s_aload_n (k := 2) (by decide +kernel) rfl, ?_⟩
  refine List.forall_mem_cons.2 ⟨s_getfield (C := q_n1) (T := q_T1) (N := 4) (idx := 103) (ref := "ProofDesk$Clause") (by decide +kernel) rfl q_in1 (by decide) (x_up mw_538) rfl, ?_⟩
  refine List.forall_mem_cons.2 ⟨s_getfield (C := q_n4) (T := q_T4) (N := 6) (idx := 107) (ref := "ProofDesk$Form") (by decide +kernel) rfl q_in4 (by decide) (x_up mw_540) rfl, ?_⟩
  refine List.forall_mem_cons.2 ⟨s_ireturn (ty := .int) (by decide +kernel) rfl, ?_⟩
  exact fun _ h => absurd h List.not_mem_nil
def q_k74 : List (Nat × xO) := q_k74_0
theorem q_s74 (l : Launch) (s0 : State) : ∀ q ∈ q_k74, x_Sim (x_K s0) none l q_y74 q_c74 3 (some .int) q_w74 q.1 q.2 := q_s74_0 l s0
/-- ProofDesk.letter(II)I -/
def q_k75_0 : List (Nat × xO) := [(0, x_lda 1 0), (1, x_ldi 2 1), (2, x_cv 5 81 2 0), (5, x_sta 6 3), (6, x_lda 7 3), (7, x_st (x_ifnull 25 10)), (10, x_ldi 11 2), (11, x_st (x_iflt 25 14)), (14, x_ldi 15 2), (15, x_lda 16 3), (16, x_gf 19 1 3), (19, x_cvH 22 150 1 13), (22, x_st (x_iclt 27 25)), (25, x_st (x_push 26 (.int (-1)))), (26, x_ri (.int)), (27, x_lda 28 3), (28, x_gf 31 1 3), (31, x_ldi 32 2), (32, x_cvH 35 152 2 13), (35, x_ri (.int))]
set_option maxRecDepth 100000 in
set_option maxHeartbeats 4000000 in
theorem q_s75_0 (l : Launch) (s0 : State) : ∀ q ∈ q_k75_0, x_Sim (x_K s0) none l q_y75 q_c75 4 (some .int) q_w75 q.1 q.2 := by
  unfold q_k75_0
  refine List.forall_mem_cons.2 ⟨s_aload_n (k := 0) (by decide +kernel) rfl, ?_⟩
  refine List.forall_mem_cons.2 ⟨s_iload_n (k := 1) (by decide +kernel) rfl, ?_⟩
  refine List.forall_mem_cons.2 ⟨s_invokevirtual (idx := 99) (M := 81) (k := 1) (ci := 0) (C := q_n0) (T := q_T0) (N := 10) (ym := q_y81) (wm := q_w81) (by decide +kernel) rfl rfl rfl (x_gdV mw_535 mw_536 mw_537 mw_408 mw_534) rfl (by decide +kernel) (by decide), ?_⟩
  refine List.forall_mem_cons.2 ⟨s_astore_n (k := 3) (by decide +kernel) rfl (by decide), ?_⟩
  refine List.forall_mem_cons.2 ⟨s_aload_n (k := 3) (by decide +kernel) rfl, ?_⟩
  refine List.forall_mem_cons.2 ⟨s_ifnull (off := 18) (by decide +kernel) (by decide), ?_⟩
  refine List.forall_mem_cons.2 ⟨s_iload_n (k := 2) (by decide +kernel) rfl, ?_⟩
  refine List.forall_mem_cons.2 ⟨s_iflt (off := 14) (by decide +kernel) (by decide), ?_⟩
  refine List.forall_mem_cons.2 ⟨s_iload_n (k := 2) (by decide +kernel) rfl, ?_⟩
  refine List.forall_mem_cons.2 ⟨s_aload_n (k := 3) (by decide +kernel) rfl, ?_⟩
  refine List.forall_mem_cons.2 ⟨s_getfield (C := q_n1) (T := q_T1) (N := 4) (idx := 110) (ref := "ProofDesk$Clause") (by decide +kernel) rfl q_in1 (by decide) (x_up mw_541) rfl, ?_⟩
  refine List.forall_mem_cons.2 ⟨s_invokevirtualH (idx := 114) (M := 150) (k := 0) (ci := 13) (ym := q_y150) (wm := q_w150) (by decide +kernel) rfl rfl (x_gdV mw_543 mw_544 mw_545 mw_546 mw_542) rfl (by decide +kernel) (by decide) (s_invokevirtual (idx := 114) (M := 150) (k := 0) (ci := 13) (C := q_n13) (T := q_T13) (N := 4) (ym := q_y150) (wm := q_w150) (by decide +kernel) rfl rfl rfl (x_gdV mw_543 mw_544 mw_545 mw_546 mw_542) rfl (by decide +kernel) (by decide)), ?_⟩
  refine List.forall_mem_cons.2 ⟨s_icmp_lt (off := 5) (by decide +kernel) (by decide), ?_⟩
  refine List.forall_mem_cons.2 ⟨s_iconst (k := -1) (by decide +kernel) (by decide +kernel), ?_⟩
  refine List.forall_mem_cons.2 ⟨s_ireturn (ty := .int) (by decide +kernel) rfl, ?_⟩
  refine List.forall_mem_cons.2 ⟨s_aload_n (k := 3) (by decide +kernel) rfl, ?_⟩
  refine List.forall_mem_cons.2 ⟨s_getfield (C := q_n1) (T := q_T1) (N := 4) (idx := 110) (ref := "ProofDesk$Clause") (by decide +kernel) rfl q_in1 (by decide) (x_up mw_541) rfl, ?_⟩
  refine List.forall_mem_cons.2 ⟨s_iload_n (k := 2) (by decide +kernel) rfl, ?_⟩
  refine List.forall_mem_cons.2 ⟨s_invokevirtualH (idx := 119) (M := 152) (k := 1) (ci := 13) (ym := q_y152) (wm := q_w152) (by decide +kernel) rfl rfl (x_gdV mw_548 mw_549 mw_550 mw_546 mw_547) rfl (by decide +kernel) (by decide) (s_invokevirtual (idx := 119) (M := 152) (k := 1) (ci := 13) (C := q_n13) (T := q_T13) (N := 4) (ym := q_y152) (wm := q_w152) (by decide +kernel) rfl rfl rfl (x_gdV mw_548 mw_549 mw_550 mw_546 mw_547) rfl (by decide +kernel) (by decide)), ?_⟩
  refine List.forall_mem_cons.2 ⟨s_ireturn (ty := .int) (by decide +kernel) rfl, ?_⟩
  exact fun _ h => absurd h List.not_mem_nil
def q_k75 : List (Nat × xO) := q_k75_0
theorem q_s75 (l : Launch) (s0 : State) : ∀ q ∈ q_k75, x_Sim (x_K s0) none l q_y75 q_c75 4 (some .int) q_w75 q.1 q.2 := q_s75_0 l s0
/-- ProofDesk.depth(I)I -/
def q_k76_0 : List (Nat × xO) := [(0, x_lda 1 0), (1, x_ldi 2 1), (2, x_cv 5 81 2 0), (5, x_sta 6 2), (6, x_lda 7 2), (7, x_st (x_ifnonnull 14 10)), (10, x_st (x_push 11 (.int (-1)))), (11, x_st (x_goto 18)), (14, x_lda 15 2), (15, x_gf 18 1 1), (18, x_ri (.int))]
set_option maxRecDepth 100000 in
set_option maxHeartbeats 4000000 in
theorem q_s76_0 (l : Launch) (s0 : State) : ∀ q ∈ q_k76_0, x_Sim (x_K s0) none l q_y76 q_c76 3 (some .int) q_w76 q.1 q.2 := by
  unfold q_k76_0
  refine List.forall_mem_cons.2 ⟨s_aload_n (k := 0) (by decide +kernel) rfl, ?_⟩
  refine List.forall_mem_cons.2 ⟨s_iload_n (k := 1) (by decide +kernel) rfl, ?_⟩
  refine List.forall_mem_cons.2 ⟨s_invokevirtual (idx := 99) (M := 81) (k := 1) (ci := 0) (C := q_n0) (T := q_T0) (N := 10) (ym := q_y81) (wm := q_w81) (by decide +kernel) rfl rfl rfl (x_gdV mw_535 mw_536 mw_537 mw_408 mw_534) rfl (by decide +kernel) (by decide), ?_⟩
  refine List.forall_mem_cons.2 ⟨s_astore_n (k := 2) (by decide +kernel) rfl (by decide), ?_⟩
  refine List.forall_mem_cons.2 ⟨s_aload_n (k := 2) (by decide +kernel) rfl, ?_⟩
  refine List.forall_mem_cons.2 ⟨s_ifnonnull (off := 7) (by decide +kernel) (by decide), ?_⟩
  refine List.forall_mem_cons.2 ⟨s_iconst (k := -1) (by decide +kernel) (by decide +kernel), ?_⟩
  refine List.forall_mem_cons.2 ⟨s_goto (off := 7) (by decide +kernel) (by decide), ?_⟩
  refine List.forall_mem_cons.2 ⟨s_aload_n (k := 2) (by decide +kernel) rfl, ?_⟩
  refine List.forall_mem_cons.2 ⟨s_getfield (C := q_n1) (T := q_T1) (N := 4) (idx := 123) (ref := "ProofDesk$Clause") (by decide +kernel) rfl q_in1 (by decide) (x_up mw_551) rfl, ?_⟩
  refine List.forall_mem_cons.2 ⟨s_ireturn (ty := .int) (by decide +kernel) rfl, ?_⟩
  exact fun _ h => absurd h List.not_mem_nil
def q_k76 : List (Nat × xO) := q_k76_0
theorem q_s76 (l : Launch) (s0 : State) : ∀ q ∈ q_k76, x_Sim (x_K s0) none l q_y76 q_c76 3 (some .int) q_w76 q.1 q.2 := q_s76_0 l s0
/-- ProofDesk.needs(II)Z -/
def q_k77_0 : List (Nat × xO) := [(0, x_lda 1 0), (1, x_ldi 2 1), (2, x_cv 5 81 2 0), (5, x_sta 6 3), (6, x_lda 7 3), (7, x_st (x_ifnull 22 10)), (10, x_ldi 11 2), (11, x_st (x_iflt 22 14)), (14, x_ldi 15 2), (15, x_lda 16 0), (16, x_gf 19 0 2), (19, x_st (x_iclt 24 22)), (22, x_st (x_push 23 (.int (0)))), (23, x_ri (.boolean)), (24, x_lda 25 3), (25, x_gf 28 1 2), (28, x_ldi 29 2), (29, x_st (x_bin 30 (fun a b => a >>> (b &&& 31)))), (30, x_st (x_push 31 (.int (1)))), (31, x_st (x_bin 32 (fun a b => a &&& b))), (32, x_st (x_push 33 (.int (1)))), (33, x_st (x_icne 40 36)), (36, x_st (x_push 37 (.int (1)))), (37, x_st (x_goto 41)), (40, x_st (x_push 41 (.int (0)))), (41, x_ri (.boolean))]
set_option maxRecDepth 100000 in
set_option maxHeartbeats 4000000 in
theorem q_s77_0 (l : Launch) (s0 : State) : ∀ q ∈ q_k77_0, x_Sim (x_K s0) none l q_y77 q_c77 4 (some .boolean) q_w77 q.1 q.2 := by
  unfold q_k77_0
  refine List.forall_mem_cons.2 ⟨s_aload_n (k := 0) (by decide +kernel) rfl, ?_⟩
  refine List.forall_mem_cons.2 ⟨s_iload_n (k := 1) (by decide +kernel) rfl, ?_⟩
  refine List.forall_mem_cons.2 ⟨s_invokevirtual (idx := 99) (M := 81) (k := 1) (ci := 0) (C := q_n0) (T := q_T0) (N := 10) (ym := q_y81) (wm := q_w81) (by decide +kernel) rfl rfl rfl (x_gdV mw_535 mw_536 mw_537 mw_408 mw_534) rfl (by decide +kernel) (by decide), ?_⟩
  refine List.forall_mem_cons.2 ⟨s_astore_n (k := 3) (by decide +kernel) rfl (by decide), ?_⟩
  refine List.forall_mem_cons.2 ⟨s_aload_n (k := 3) (by decide +kernel) rfl, ?_⟩
  refine List.forall_mem_cons.2 ⟨s_ifnull (off := 15) (by decide +kernel) (by decide), ?_⟩
  refine List.forall_mem_cons.2 ⟨s_iload_n (k := 2) (by decide +kernel) rfl, ?_⟩
  refine List.forall_mem_cons.2 ⟨s_iflt (off := 11) (by decide +kernel) (by decide), ?_⟩
  refine List.forall_mem_cons.2 ⟨s_iload_n (k := 2) (by decide +kernel) rfl, ?_⟩
  refine List.forall_mem_cons.2 ⟨s_aload_n (k := 0) (by decide +kernel) rfl, ?_⟩
  refine List.forall_mem_cons.2 ⟨s_getfield (C := q_n0) (T := q_T0) (N := 10) (idx := 61) (ref := "ProofDesk") (by decide +kernel) rfl q_in0 (by decide) (x_up mw_516) rfl, ?_⟩
  refine List.forall_mem_cons.2 ⟨s_icmp_lt (off := 5) (by decide +kernel) (by decide), ?_⟩
  refine List.forall_mem_cons.2 ⟨s_iconst (k := 0) (by decide +kernel) (by decide +kernel), ?_⟩
  refine List.forall_mem_cons.2 ⟨s_ireturn (ty := .boolean) (by decide +kernel) rfl, ?_⟩
  refine List.forall_mem_cons.2 ⟨s_aload_n (k := 3) (by decide +kernel) rfl, ?_⟩
  refine List.forall_mem_cons.2 ⟨s_getfield (C := q_n1) (T := q_T1) (N := 4) (idx := 126) (ref := "ProofDesk$Clause") (by decide +kernel) rfl q_in1 (by decide) (x_up mw_552) rfl, ?_⟩
  refine List.forall_mem_cons.2 ⟨s_iload_n (k := 2) (by decide +kernel) rfl, ?_⟩
  refine List.forall_mem_cons.2 ⟨s_ishr (by decide +kernel), ?_⟩
  refine List.forall_mem_cons.2 ⟨s_iconst (k := 1) (by decide +kernel) (by decide +kernel), ?_⟩
  refine List.forall_mem_cons.2 ⟨s_iand (by decide +kernel), ?_⟩
  refine List.forall_mem_cons.2 ⟨s_iconst (k := 1) (by decide +kernel) (by decide +kernel), ?_⟩
  refine List.forall_mem_cons.2 ⟨s_icmp_ne (off := 7) (by decide +kernel) (by decide), ?_⟩
  refine List.forall_mem_cons.2 ⟨s_iconst (k := 1) (by decide +kernel) (by decide +kernel), ?_⟩
  refine List.forall_mem_cons.2 ⟨s_goto (off := 4) (by decide +kernel) (by decide), ?_⟩
  refine List.forall_mem_cons.2 ⟨s_iconst (k := 0) (by decide +kernel) (by decide +kernel), ?_⟩
  refine List.forall_mem_cons.2 ⟨s_ireturn (ty := .boolean) (by decide +kernel) rfl, ?_⟩
  exact fun _ h => absurd h List.not_mem_nil
def q_k77 : List (Nat × xO) := q_k77_0
theorem q_s77 (l : Launch) (s0 : State) : ∀ q ∈ q_k77, x_Sim (x_K s0) none l q_y77 q_c77 4 (some .boolean) q_w77 q.1 q.2 := q_s77_0 l s0
/-- ProofDesk.refuted()I -/
def q_k78_0 : List (Nat × xO) := [(0, x_st (x_push 1 (.int (0)))), (1, x_sti 2 1), (2, x_ldi 3 1), (3, x_lda 4 0), (4, x_gf 7 0 2), (7, x_st (x_icge 38 10)), (10, x_lda 11 0), (11, x_ldi 12 1), (12, x_cv 15 81 2 0), (15, x_sta 16 2), (16, x_lda 17 2), (17, x_st (x_ifnull 32 20)), (20, x_lda 21 2), (21, x_gf 24 1 0), (24, x_gf 27 4 3), (27, x_st (x_ifne 32 30)), (30, x_ldi 31 1), (31, x_ri (.int)), (32, x_iinc 35 1 (1)), (35, x_st (x_goto 2)), (38, x_st (x_push 39 (.int (-1)))), (39, x_ri (.int))]
set_option maxRecDepth 100000 in
set_option maxHeartbeats 4000000 in
theorem q_s78_0 (l : Launch) (s0 : State) : ∀ q ∈ q_k78_0, x_Sim (x_K s0) none l q_y78 q_c78 3 (some .int) q_w78 q.1 q.2 := by
  unfold q_k78_0
  refine List.forall_mem_cons.2 ⟨s_iconst (k := 0) (by decide +kernel) (by decide +kernel), ?_⟩
  refine List.forall_mem_cons.2 ⟨s_istore_n (k := 1) (by decide +kernel) rfl (by decide), ?_⟩
  refine List.forall_mem_cons.2 ⟨s_iload_n (k := 1) (by decide +kernel) rfl, ?_⟩
  refine List.forall_mem_cons.2 ⟨s_aload_n (k := 0) (by decide +kernel) rfl, ?_⟩
  refine List.forall_mem_cons.2 ⟨s_getfield (C := q_n0) (T := q_T0) (N := 10) (idx := 61) (ref := "ProofDesk") (by decide +kernel) rfl q_in0 (by decide) (x_up mw_516) rfl, ?_⟩
  refine List.forall_mem_cons.2 ⟨s_icmp_ge (off := 31) (by decide +kernel) (by decide), ?_⟩
  refine List.forall_mem_cons.2 ⟨s_aload_n (k := 0) (by decide +kernel) rfl, ?_⟩
  refine List.forall_mem_cons.2 ⟨s_iload_n (k := 1) (by decide +kernel) rfl, ?_⟩
  refine List.forall_mem_cons.2 ⟨s_invokevirtual (idx := 99) (M := 81) (k := 1) (ci := 0) (C := q_n0) (T := q_T0) (N := 10) (ym := q_y81) (wm := q_w81) (by decide +kernel) rfl rfl rfl (x_gdV mw_535 mw_536 mw_537 mw_408 mw_534) rfl (by decide +kernel) (by decide), ?_⟩
  refine List.forall_mem_cons.2 ⟨s_astore_n (k := 2) (by decide +kernel) rfl (by decide), ?_⟩
  refine List.forall_mem_cons.2 ⟨s_aload_n (k := 2) (by decide +kernel) rfl, ?_⟩
  refine List.forall_mem_cons.2 ⟨s_ifnull (off := 15) (by decide +kernel) (by decide), ?_⟩
  refine List.forall_mem_cons.2 ⟨s_aload_n (k := 2) (by decide +kernel) rfl, ?_⟩
  refine List.forall_mem_cons.2 ⟨s_getfield (C := q_n1) (T := q_T1) (N := 4) (idx := 103) (ref := "ProofDesk$Clause") (by decide +kernel) rfl q_in1 (by decide) (x_up mw_538) rfl, ?_⟩
  refine List.forall_mem_cons.2 ⟨s_getfield (C := q_n4) (T := q_T4) (N := 6) (idx := 106) (ref := "ProofDesk$Form") (by decide +kernel) rfl q_in4 (by decide) (x_up mw_539) rfl, ?_⟩
  refine List.forall_mem_cons.2 ⟨s_ifne (off := 5) (by decide +kernel) (by decide), ?_⟩
  refine List.forall_mem_cons.2 ⟨s_iload_n (k := 1) (by decide +kernel) rfl, ?_⟩
  refine List.forall_mem_cons.2 ⟨s_ireturn (ty := .int) (by decide +kernel) rfl, ?_⟩
  refine List.forall_mem_cons.2 ⟨s_iinc (k := 1) (by decide +kernel) (by decide +kernel) (by decide), ?_⟩
  refine List.forall_mem_cons.2 ⟨s_goto (off := -33) (by decide +kernel) (by decide), ?_⟩
  refine List.forall_mem_cons.2 ⟨s_iconst (k := -1) (by decide +kernel) (by decide +kernel), ?_⟩
  refine List.forall_mem_cons.2 ⟨s_ireturn (ty := .int) (by decide +kernel) rfl, ?_⟩
  exact fun _ h => absurd h List.not_mem_nil
def q_k78 : List (Nat × xO) := q_k78_0
theorem q_s78 (l : Launch) (s0 : State) : ∀ q ∈ q_k78, x_Sim (x_K s0) none l q_y78 q_c78 3 (some .int) q_w78 q.1 q.2 := q_s78_0 l s0
/-- ProofDesk.trivial(I)Z -/
def q_k79_0 : List (Nat × xO) := [(0, x_lda 1 0), (1, x_ldi 2 1), (2, x_cv 5 81 2 0), (5, x_sta 6 2), (6, x_lda 7 2), (7, x_st (x_ifnull 24 10)), (10, x_lda 11 2), (11, x_gf 14 1 0), (14, x_cv 17 24 1 4), (17, x_st (x_ifeq 24 20)), (20, x_st (x_push 21 (.int (1)))), (21, x_st (x_goto 25)), (24, x_st (x_push 25 (.int (0)))), (25, x_ri (.boolean))]
set_option maxRecDepth 100000 in
set_option maxHeartbeats 4000000 in
theorem q_s79_0 (l : Launch) (s0 : State) : ∀ q ∈ q_k79_0, x_Sim (x_K s0) none l q_y79 q_c79 3 (some .boolean) q_w79 q.1 q.2 := by
  unfold q_k79_0
  refine List.forall_mem_cons.2 ⟨s_aload_n (k := 0) (by decide +kernel) rfl, ?_⟩
  refine List.forall_mem_cons.2 ⟨s_iload_n (k := 1) (by decide +kernel) rfl, ?_⟩
  refine List.forall_mem_cons.2 ⟨s_invokevirtual (idx := 99) (M := 81) (k := 1) (ci := 0) (C := q_n0) (T := q_T0) (N := 10) (ym := q_y81) (wm := q_w81) (by decide +kernel) rfl rfl rfl (x_gdV mw_535 mw_536 mw_537 mw_408 mw_534) rfl (by decide +kernel) (by decide), ?_⟩
  refine List.forall_mem_cons.2 ⟨s_astore_n (k := 2) (by decide +kernel) rfl (by decide), ?_⟩
  refine List.forall_mem_cons.2 ⟨s_aload_n (k := 2) (by decide +kernel) rfl, ?_⟩
  refine List.forall_mem_cons.2 ⟨s_ifnull (off := 17) (by decide +kernel) (by decide), ?_⟩
  refine List.forall_mem_cons.2 ⟨s_aload_n (k := 2) (by decide +kernel) rfl, ?_⟩
  refine List.forall_mem_cons.2 ⟨s_getfield (C := q_n1) (T := q_T1) (N := 4) (idx := 103) (ref := "ProofDesk$Clause") (by decide +kernel) rfl q_in1 (by decide) (x_up mw_538) rfl, ?_⟩
  refine List.forall_mem_cons.2 ⟨s_invokevirtual (idx := 129) (M := 24) (k := 0) (ci := 4) (C := q_n4) (T := q_T4) (N := 6) (ym := q_y24) (wm := q_w24) (by decide +kernel) rfl rfl rfl (x_gdV mw_554 mw_555 mw_556 mw_203 mw_553) rfl (by decide +kernel) (by decide), ?_⟩
  refine List.forall_mem_cons.2 ⟨s_ifeq (off := 7) (by decide +kernel) (by decide), ?_⟩
  refine List.forall_mem_cons.2 ⟨s_iconst (k := 1) (by decide +kernel) (by decide +kernel), ?_⟩
  refine List.forall_mem_cons.2 ⟨s_goto (off := 4) (by decide +kernel) (by decide), ?_⟩
  refine List.forall_mem_cons.2 ⟨s_iconst (k := 0) (by decide +kernel) (by decide +kernel), ?_⟩
  refine List.forall_mem_cons.2 ⟨s_ireturn (ty := .boolean) (by decide +kernel) rfl, ?_⟩
  exact fun _ h => absurd h List.not_mem_nil
def q_k79 : List (Nat × xO) := q_k79_0
theorem q_s79 (l : Launch) (s0 : State) : ∀ q ∈ q_k79, x_Sim (x_K s0) none l q_y79 q_c79 3 (some .boolean) q_w79 q.1 q.2 := q_s79_0 l s0
/-- ProofDesk.draft()I -/
def q_k80_0 : List (Nat × xO) := [(0, x_lda 1 0), (1, x_gf 4 0 0), (4, x_gf 7 3 2), (7, x_ri (.int))]
set_option maxRecDepth 100000 in
set_option maxHeartbeats 4000000 in
theorem q_s80_0 (l : Launch) (s0 : State) : ∀ q ∈ q_k80_0, x_Sim (x_K s0) none l q_y80 q_c80 1 (some .int) q_w80 q.1 q.2 := by
  unfold q_k80_0
  refine List.forall_mem_cons.2 ⟨s_aload_n (k := 0) (by decide +kernel) rfl, ?_⟩
  refine List.forall_mem_cons.2 ⟨s_getfield (C := q_n0) (T := q_T0) (N := 10) (idx := 10) (ref := "ProofDesk") (by decide +kernel) rfl q_in0 (by decide) (x_up mw_483) rfl, ?_⟩
  refine List.forall_mem_cons.2 ⟨s_getfield (C := q_n3) (T := q_T3) (N := 3) (idx := 133) (ref := "ProofDesk$Draft") (by decide +kernel) rfl q_in3 (by decide) (x_up mw_557) rfl, ?_⟩
  refine List.forall_mem_cons.2 ⟨s_ireturn (ty := .int) (by decide +kernel) rfl, ?_⟩
  exact fun _ h => absurd h List.not_mem_nil
def q_k80 : List (Nat × xO) := q_k80_0
theorem q_s80 (l : Launch) (s0 : State) : ∀ q ∈ q_k80, x_Sim (x_K s0) none l q_y80 q_c80 1 (some .int) q_w80 q.1 q.2 := q_s80_0 l s0
/-- ProofDesk.clauseAt(I)LProofDesk$Clause; -/
def q_k81_0 : List (Nat × xO) := [(0, x_ldi 1 1), (1, x_st (x_iflt 12 4)), (4, x_ldi 5 1), (5, x_lda 6 0), (6, x_gf 9 0 2), (9, x_st (x_iclt 16 12)), (12, x_st (x_push 13 .null)), (13, x_st (x_goto 22)), (16, x_lda 17 0), (17, x_gf 20 0 1), (20, x_ldi 21 1), (21, x_aldr 22 4), (22, x_ra)]
set_option maxRecDepth 100000 in
set_option maxHeartbeats 4000000 in
theorem q_s81_0 (l : Launch) (s0 : State) : ∀ q ∈ q_k81_0, x_Sim (x_K s0) none l q_y81 q_c81 2 (some (.object "ProofDesk$Clause")) q_w81 q.1 q.2 := by
  unfold q_k81_0
  refine List.forall_mem_cons.2 ⟨s_iload_n (k := 1) (by decide +kernel) rfl, ?_⟩
  refine List.forall_mem_cons.2 ⟨s_iflt (off := 11) (by decide +kernel) (by decide), ?_⟩
  refine List.forall_mem_cons.2 ⟨s_iload_n (k := 1) (by decide +kernel) rfl, ?_⟩
  refine List.forall_mem_cons.2 ⟨s_aload_n (k := 0) (by decide +kernel) rfl, ?_⟩
  refine List.forall_mem_cons.2 ⟨s_getfield (C := q_n0) (T := q_T0) (N := 10) (idx := 61) (ref := "ProofDesk") (by decide +kernel) rfl q_in0 (by decide) (x_up mw_516) rfl, ?_⟩
  refine List.forall_mem_cons.2 ⟨s_icmp_lt (off := 7) (by decide +kernel) (by decide), ?_⟩
  refine List.forall_mem_cons.2 ⟨s_null (by decide +kernel), ?_⟩
  refine List.forall_mem_cons.2 ⟨s_goto (off := 9) (by decide +kernel) (by decide), ?_⟩
  refine List.forall_mem_cons.2 ⟨s_aload_n (k := 0) (by decide +kernel) rfl, ?_⟩
  refine List.forall_mem_cons.2 ⟨s_getfield (C := q_n0) (T := q_T0) (N := 10) (idx := 18) (ref := "ProofDesk") (by decide +kernel) rfl q_in0 (by decide) (x_up mw_485) rfl, ?_⟩
  refine List.forall_mem_cons.2 ⟨s_iload_n (k := 1) (by decide +kernel) rfl, ?_⟩
  refine List.forall_mem_cons.2 ⟨s_aald (C := "ProofDesk$Clause") (by decide +kernel) rfl, ?_⟩
  refine List.forall_mem_cons.2 ⟨s_areturn (rt := .object "ProofDesk$Clause") (by decide +kernel) rfl (Or.inl ⟨_, rfl⟩), ?_⟩
  exact fun _ h => absurd h List.not_mem_nil
def q_k81 : List (Nat × xO) := q_k81_0
theorem q_s81 (l : Launch) (s0 : State) : ∀ q ∈ q_k81, x_Sim (x_K s0) none l q_y81 q_c81 2 (some (.object "ProofDesk$Clause")) q_w81 q.1 q.2 := q_s81_0 l s0
/-- ProofDesk.takeDraft()V -/
def q_k82_0 : List (Nat × xO) := [(0, x_lda 1 0), (1, x_lda 2 0), (2, x_gf 5 0 0), (5, x_gf 8 3 2), (8, x_st (x_ifle 15 11)), (11, x_st (x_push 12 (.int (1)))), (12, x_st (x_goto 16)), (15, x_st (x_push 16 (.int (0)))), (16, x_pf 19 0 5 (.boolean)), (19, x_lda 20 0), (20, x_gf 23 0 0), (23, x_lda 24 0), (24, x_gf 27 0 4), (27, x_cv 30 28 2 3), (30, x_st (x_ifne 41 33)), (33, x_lda 34 0), (34, x_st (x_push 35 (.int (-1)))), (35, x_pf 38 0 6 (.int)), (38, x_st (x_goto 65)), (41, x_lda 42 0), (42, x_lda 43 0), (43, x_gf 46 0 3), (46, x_lda 47 0), (47, x_gf 50 0 4), (50, x_cv 53 36 2 7), (53, x_st (x_ifeq 60 56)), (56, x_st (x_push 57 (.int (0)))), (57, x_st (x_goto 62)), (60, x_st (x_push 62 (.int (-2)))), (62, x_pf 65 0 6 (.int)), (65, x_lda 66 0), (66, x_gf 69 0 4), (69, x_cv 72 21 1 4), (72, x_st (x_pop 73)), (73, x_lda 74 0), (74, x_gf 77 0 0), (77, x_st (x_push 78 (.int (0)))), (78, x_pf 81 3 2 (.int)), (81, x_rv)]
set_option maxRecDepth 100000 in
set_option maxHeartbeats 4000000 in
theorem q_s82_0 (l : Launch) (s0 : State) : ∀ q ∈ q_k82_0, x_Sim (x_K s0) none l q_y82 q_c82 1 none q_w82 q.1 q.2 := by
  unfold q_k82_0
  refine List.forall_mem_cons.2 ⟨s_aload_n (k := 0) (by decide +kernel) rfl, ?_⟩
  refine List.forall_mem_cons.2 ⟨s_aload_n (k := 0) (by decide +kernel) rfl, ?_⟩
  refine List.forall_mem_cons.2 ⟨s_getfield (C := q_n0) (T := q_T0) (N := 10) (idx := 10) (ref := "ProofDesk") (by decide +kernel) rfl q_in0 (by decide) (x_up mw_483) rfl, ?_⟩
  refine List.forall_mem_cons.2 ⟨s_getfield (C := q_n3) (T := q_T3) (N := 3) (idx := 133) (ref := "ProofDesk$Draft") (by decide +kernel) rfl q_in3 (by decide) (x_up mw_557) rfl, ?_⟩
  refine List.forall_mem_cons.2 ⟨s_ifle (off := 7) (by decide +kernel) (by decide), ?_⟩
  refine List.forall_mem_cons.2 ⟨s_iconst (k := 1) (by decide +kernel) (by decide +kernel), ?_⟩
  refine List.forall_mem_cons.2 ⟨s_goto (off := 4) (by decide +kernel) (by decide), ?_⟩
  refine List.forall_mem_cons.2 ⟨s_iconst (k := 0) (by decide +kernel) (by decide +kernel), ?_⟩
  refine List.forall_mem_cons.2 ⟨s_putfield (C := q_n0) (T := q_T0) (N := 10) (idx := 134) (ref := "ProofDesk") q_t0 (by decide +kernel) rfl q_in0 q_ty0 q_nm0 (by decide) (x_up mw_558) rfl rfl (by decide +kernel), ?_⟩
  refine List.forall_mem_cons.2 ⟨s_aload_n (k := 0) (by decide +kernel) rfl, ?_⟩
  refine List.forall_mem_cons.2 ⟨s_getfield (C := q_n0) (T := q_T0) (N := 10) (idx := 10) (ref := "ProofDesk") (by decide +kernel) rfl q_in0 (by decide) (x_up mw_483) rfl, ?_⟩
  refine List.forall_mem_cons.2 ⟨s_aload_n (k := 0) (by decide +kernel) rfl, ?_⟩
  refine List.forall_mem_cons.2 ⟨s_getfield (C := q_n0) (T := q_T0) (N := 10) (idx := 32) (ref := "ProofDesk") (by decide +kernel) rfl q_in0 (by decide) (x_up mw_494) rfl, ?_⟩
  refine List.forall_mem_cons.2 ⟨s_invokevirtual (idx := 138) (M := 28) (k := 1) (ci := 3) (C := q_n3) (T := q_T3) (N := 3) (ym := q_y28) (wm := q_w28) (by decide +kernel) rfl rfl rfl (x_gdV mw_560 mw_561 mw_562 mw_249 mw_559) rfl (by decide +kernel) (by decide), ?_⟩
  refine List.forall_mem_cons.2 ⟨s_ifne (off := 11) (by decide +kernel) (by decide), ?_⟩
  refine List.forall_mem_cons.2 ⟨s_aload_n (k := 0) (by decide +kernel) rfl, ?_⟩
  refine List.forall_mem_cons.2 ⟨s_iconst (k := -1) (by decide +kernel) (by decide +kernel), ?_⟩
  refine List.forall_mem_cons.2 ⟨s_putfield (C := q_n0) (T := q_T0) (N := 10) (idx := 57) (ref := "ProofDesk") q_t0 (by decide +kernel) rfl q_in0 q_ty0 q_nm0 (by decide) (x_up mw_515) rfl rfl (by decide +kernel), ?_⟩
  refine List.forall_mem_cons.2 ⟨s_goto (off := 27) (by decide +kernel) (by decide), ?_⟩
  refine List.forall_mem_cons.2 ⟨s_aload_n (k := 0) (by decide +kernel) rfl, ?_⟩
  refine List.forall_mem_cons.2 ⟨s_aload_n (k := 0) (by decide +kernel) rfl, ?_⟩
  refine List.forall_mem_cons.2 ⟨s_getfield (C := q_n0) (T := q_T0) (N := 10) (idx := 25) (ref := "ProofDesk") (by decide +kernel) rfl q_in0 (by decide) (x_up mw_491) rfl, ?_⟩
  refine List.forall_mem_cons.2 ⟨s_aload_n (k := 0) (by decide +kernel) rfl, ?_⟩
  refine List.forall_mem_cons.2 ⟨s_getfield (C := q_n0) (T := q_T0) (N := 10) (idx := 32) (ref := "ProofDesk") (by decide +kernel) rfl q_in0 (by decide) (x_up mw_494) rfl, ?_⟩
  refine List.forall_mem_cons.2 ⟨s_invokevirtual (idx := 142) (M := 36) (k := 1) (ci := 7) (C := q_n7) (T := q_T7) (N := 2) (ym := q_y36) (wm := q_w36) (by decide +kernel) rfl rfl rfl (x_gdV mw_564 mw_565 mw_566 mw_298 mw_563) rfl (by decide +kernel) (by decide), ?_⟩
  refine List.forall_mem_cons.2 ⟨s_ifeq (off := 7) (by decide +kernel) (by decide), ?_⟩
  refine List.forall_mem_cons.2 ⟨s_iconst (k := 0) (by decide +kernel) (by decide +kernel), ?_⟩
  refine List.forall_mem_cons.2 ⟨s_goto (off := 5) (by decide +kernel) (by decide), ?_⟩
  refine List.forall_mem_cons.2 ⟨s_bipush (k := -2) (by decide +kernel) (by decide +kernel), ?_⟩
  refine List.forall_mem_cons.2 ⟨s_putfield (C := q_n0) (T := q_T0) (N := 10) (idx := 57) (ref := "ProofDesk") q_t0 (by decide +kernel) rfl q_in0 q_ty0 q_nm0 (by decide) (x_up mw_515) rfl rfl (by decide +kernel), ?_⟩
  refine List.forall_mem_cons.2 ⟨s_aload_n (k := 0) (by decide +kernel) rfl, ?_⟩
  refine List.forall_mem_cons.2 ⟨s_getfield (C := q_n0) (T := q_T0) (N := 10) (idx := 32) (ref := "ProofDesk") (by decide +kernel) rfl q_in0 (by decide) (x_up mw_494) rfl, ?_⟩
  refine List.forall_mem_cons.2 ⟨s_invokevirtual (idx := 145) (M := 21) (k := 0) (ci := 4) (C := q_n4) (T := q_T4) (N := 6) (ym := q_y21) (wm := q_w21) (by decide +kernel) rfl rfl rfl (x_gdV mw_567 mw_437 mw_438 mw_203 mw_435) rfl (by decide +kernel) (by decide), ?_⟩
  refine List.forall_mem_cons.2 ⟨s_pop (by decide +kernel), ?_⟩
  refine List.forall_mem_cons.2 ⟨s_aload_n (k := 0) (by decide +kernel) rfl, ?_⟩
  refine List.forall_mem_cons.2 ⟨s_getfield (C := q_n0) (T := q_T0) (N := 10) (idx := 10) (ref := "ProofDesk") (by decide +kernel) rfl q_in0 (by decide) (x_up mw_483) rfl, ?_⟩
  refine List.forall_mem_cons.2 ⟨s_iconst (k := 0) (by decide +kernel) (by decide +kernel), ?_⟩
  refine List.forall_mem_cons.2 ⟨s_putfield (C := q_n3) (T := q_T3) (N := 3) (idx := 133) (ref := "ProofDesk$Draft") q_t3 (by decide +kernel) rfl q_in3 q_ty3 q_nm3 (by decide) (x_up mw_557) rfl rfl (by decide +kernel), ?_⟩
  refine List.forall_mem_cons.2 ⟨s_return (by decide +kernel) rfl, ?_⟩
  exact fun _ h => absurd h List.not_mem_nil
def q_k82 : List (Nat × xO) := q_k82_0
theorem q_s82 (l : Launch) (s0 : State) : ∀ q ∈ q_k82, x_Sim (x_K s0) none l q_y82 q_c82 1 none q_w82 q.1 q.2 := q_s82_0 l s0
/-- ProofDesk.attempt(IIIIII)I -/
def q_k83_0 : List (Nat × xO) := [(0, x_lda 1 0), (1, x_gf 4 0 2), (4, x_st (x_push 6 (.int (30)))), (6, x_st (x_iclt 12 9)), (9, x_st (x_push 11 (.int (-3)))), (11, x_ri (.int)), (12, x_lda 13 0), (13, x_ldi 14 2), (14, x_cv 17 81 2 0), (17, x_sta 19 7), (19, x_ldi 20 1), (20, x_cl_ 23 85 1), (23, x_st (x_ifeq 35 26)), (26, x_lda 27 0), (27, x_ldi 29 4), (29, x_cv 32 81 2 0), (32, x_st (x_goto 37)), (35, x_lda 37 7), (37, x_sta 39 8), (39, x_lda 41 7), (41, x_st (x_ifnull 72 44)), (44, x_lda 46 8), (46, x_st (x_ifnull 72 49)), (49, x_lda 50 0), (50, x_ldi 51 1), (51, x_lda 53 7), (53, x_gf 56 1 0), (56, x_ldi 57 3), (57, x_lda 59 8), (59, x_gf 62 1 0), (62, x_ldi 64 5), (64, x_ldi 66 6), (66, x_cv 69 86 7 0), (69, x_st (x_ifne 75 72)), (72, x_st (x_push 74 (.int (-4)))), (74, x_ri (.int)), (75, x_lda 76 0), (76, x_gf 79 0 5), (79, x_st (x_ifeq 94 82)), (82, x_lda 83 0)]
set_option maxRecDepth 100000 in
set_option maxHeartbeats 4000000 in
theorem q_s83_0 (l : Launch) (s0 : State) : ∀ q ∈ q_k83_0, x_Sim (x_K s0) none l q_y83 q_c83 11 (some .int) q_w83 q.1 q.2 := by
  unfold q_k83_0
  refine List.forall_mem_cons.2 ⟨s_aload_n (k := 0) (by decide +kernel) rfl, ?_⟩
  refine List.forall_mem_cons.2 ⟨s_getfield (C := q_n0) (T := q_T0) (N := 10) (idx := 61) (ref := "ProofDesk") (by decide +kernel) rfl q_in0 (by decide) (x_up mw_516) rfl, ?_⟩
  refine List.forall_mem_cons.2 ⟨s_bipush (k := 30) (by decide +kernel) (by decide +kernel), ?_⟩
  refine List.forall_mem_cons.2 ⟨s_icmp_lt (off := 6) (by decide +kernel) (by decide), ?_⟩
  refine List.forall_mem_cons.2 ⟨s_bipush (k := -3) (by decide +kernel) (by decide +kernel), ?_⟩
  refine List.forall_mem_cons.2 ⟨s_ireturn (ty := .int) (by decide +kernel) rfl, ?_⟩
  refine List.forall_mem_cons.2 ⟨s_aload_n (k := 0) (by decide +kernel) rfl, ?_⟩
  refine List.forall_mem_cons.2 ⟨s_iload_n (k := 2) (by decide +kernel) rfl, ?_⟩
  refine List.forall_mem_cons.2 ⟨s_invokevirtual (idx := 99) (M := 81) (k := 1) (ci := 0) (C := q_n0) (T := q_T0) (N := 10) (ym := q_y81) (wm := q_w81) (by decide +kernel) rfl rfl rfl (x_gdV mw_535 mw_536 mw_537 mw_408 mw_534) rfl (by decide +kernel) (by decide), ?_⟩
  refine List.forall_mem_cons.2 ⟨s_astore (by decide +kernel) (by decide), ?_⟩
  refine List.forall_mem_cons.2 ⟨s_iload_n (k := 1) (by decide +kernel) rfl, ?_⟩
  refine List.forall_mem_cons.2 ⟨s_invokestatic (idx := 148) (M := 85) (ym := q_y85) (wm := q_w85) (by decide +kernel) rfl rfl (x_gdS mw_568 mw_407 mw_408 mw_406) rfl (by decide +kernel) (by decide), ?_⟩
  refine List.forall_mem_cons.2 ⟨s_ifeq (off := 12) (by decide +kernel) (by decide), ?_⟩
  refine List.forall_mem_cons.2 ⟨s_aload_n (k := 0) (by decide +kernel) rfl, ?_⟩
  refine List.forall_mem_cons.2 ⟨s_iload (by decide +kernel), ?_⟩
  refine List.forall_mem_cons.2 ⟨s_invokevirtual (idx := 99) (M := 81) (k := 1) (ci := 0) (C := q_n0) (T := q_T0) (N := 10) (ym := q_y81) (wm := q_w81) (by decide +kernel) rfl rfl rfl (x_gdV mw_535 mw_536 mw_537 mw_408 mw_534) rfl (by decide +kernel) (by decide), ?_⟩
  refine List.forall_mem_cons.2 ⟨s_goto (off := 5) (by decide +kernel) (by decide), ?_⟩
  refine List.forall_mem_cons.2 ⟨s_aload (by decide +kernel), ?_⟩
  refine List.forall_mem_cons.2 ⟨s_astore (by decide +kernel) (by decide), ?_⟩
  refine List.forall_mem_cons.2 ⟨s_aload (by decide +kernel), ?_⟩
  refine List.forall_mem_cons.2 ⟨s_ifnull (off := 31) (by decide +kernel) (by decide), ?_⟩
  refine List.forall_mem_cons.2 ⟨s_aload (by decide +kernel), ?_⟩
  refine List.forall_mem_cons.2 ⟨s_ifnull (off := 26) (by decide +kernel) (by decide), ?_⟩
  refine List.forall_mem_cons.2 ⟨s_aload_n (k := 0) (by decide +kernel) rfl, ?_⟩
  refine List.forall_mem_cons.2 ⟨s_iload_n (k := 1) (by decide +kernel) rfl, ?_⟩
  refine List.forall_mem_cons.2 ⟨s_aload (by decide +kernel), ?_⟩
  refine List.forall_mem_cons.2 ⟨s_getfield (C := q_n1) (T := q_T1) (N := 4) (idx := 103) (ref := "ProofDesk$Clause") (by decide +kernel) rfl q_in1 (by decide) (x_up mw_538) rfl, ?_⟩
  refine List.forall_mem_cons.2 ⟨s_iload_n (k := 3) (by decide +kernel) rfl, ?_⟩
  refine List.forall_mem_cons.2 ⟨s_aload (by decide +kernel), ?_⟩
  refine List.forall_mem_cons.2 ⟨s_getfield (C := q_n1) (T := q_T1) (N := 4) (idx := 103) (ref := "ProofDesk$Clause") (by decide +kernel) rfl q_in1 (by decide) (x_up mw_538) rfl, ?_⟩
  refine List.forall_mem_cons.2 ⟨s_iload (by decide +kernel), ?_⟩
  refine List.forall_mem_cons.2 ⟨s_iload (by decide +kernel), ?_⟩
  refine List.forall_mem_cons.2 ⟨s_invokevirtual (idx := 152) (M := 86) (k := 6) (ci := 0) (C := q_n0) (T := q_T0) (N := 10) (ym := q_y86) (wm := q_w86) (by decide +kernel) rfl rfl rfl (x_gdV mw_570 mw_571 mw_572 mw_408 mw_569) rfl (by decide +kernel) (by decide), ?_⟩
  refine List.forall_mem_cons.2 ⟨s_ifne (off := 6) (by decide +kernel) (by decide), ?_⟩
  refine List.forall_mem_cons.2 ⟨s_bipush (k := -4) (by decide +kernel) (by decide +kernel), ?_⟩
  refine List.forall_mem_cons.2 ⟨s_ireturn (ty := .int) (by decide +kernel) rfl, ?_⟩
  refine List.forall_mem_cons.2 ⟨s_aload_n (k := 0) (by decide +kernel) rfl, ?_⟩
  refine List.forall_mem_cons.2 ⟨s_getfield (C := q_n0) (T := q_T0) (N := 10) (idx := 134) (ref := "ProofDesk") (by decide +kernel) rfl q_in0 (by decide) (x_up mw_558) rfl, ?_⟩
  refine List.forall_mem_cons.2 ⟨s_ifeq (off := 15) (by decide +kernel) (by decide), ?_⟩
  refine List.forall_mem_cons.2 ⟨s_aload_n (k := 0) (by decide +kernel) rfl, ?_⟩
  exact fun _ h => absurd h List.not_mem_nil
def q_k83_1 : List (Nat × xO) := [(83, x_gf 86 0 6), (86, x_st (x_ifeq 94 89)), (89, x_lda 90 0), (90, x_gf 93 0 6), (93, x_ri (.int)), (94, x_ldi 95 1), (95, x_st (x_push 96 (.int (4)))), (96, x_st (x_icne 103 99)), (99, x_st (x_push 100 (.int (0)))), (100, x_st (x_goto 126)), (103, x_lda 104 0), (104, x_gf 107 0 7), (107, x_ldi 108 1), (108, x_lda 110 7), (110, x_gf 113 1 0), (113, x_ldi 114 3), (114, x_lda 116 8), (116, x_gf 119 1 0), (119, x_ldi 121 5), (121, x_ldi 123 6), (123, x_cv 126 59 7 2), (126, x_sti 128 9), (128, x_ldi 130 9), (130, x_st (x_ifeq 136 133)), (133, x_ldi 135 9), (135, x_ri (.int)), (136, x_lda 137 0), (137, x_gf 140 0 5), (140, x_st (x_ifeq 159 143)), (143, x_lda 144 0), (144, x_ldi 145 1), (145, x_lda 147 7), (147, x_gf 150 1 0), (150, x_cv 153 84 3 0), (153, x_st (x_ifne 159 156)), (156, x_st (x_push 158 (.int (-8)))), (158, x_ri (.int)), (159, x_ldi 160 1), (160, x_st (x_push 161 (.int (4)))), (161, x_st (x_icne 171 164))]
set_option maxRecDepth 100000 in
set_option maxHeartbeats 4000000 in
theorem q_s83_1 (l : Launch) (s0 : State) : ∀ q ∈ q_k83_1, x_Sim (x_K s0) none l q_y83 q_c83 11 (some .int) q_w83 q.1 q.2 := by
  unfold q_k83_1
  refine List.forall_mem_cons.2 ⟨s_getfield (C := q_n0) (T := q_T0) (N := 10) (idx := 57) (ref := "ProofDesk") (by decide +kernel) rfl q_in0 (by decide) (x_up mw_515) rfl, ?_⟩
  refine List.forall_mem_cons.2 ⟨s_ifeq (off := 8) (by decide +kernel) (by decide), ?_⟩
  refine List.forall_mem_cons.2 ⟨s_aload_n (k := 0) (by decide +kernel) rfl, ?_⟩
  refine List.forall_mem_cons.2 ⟨s_getfield (C := q_n0) (T := q_T0) (N := 10) (idx := 57) (ref := "ProofDesk") (by decide +kernel) rfl q_in0 (by decide) (x_up mw_515) rfl, ?_⟩
  refine List.forall_mem_cons.2 ⟨s_ireturn (ty := .int) (by decide +kernel) rfl, ?_⟩
  refine List.forall_mem_cons.2 ⟨s_iload_n (k := 1) (by decide +kernel) rfl, ?_⟩
  refine List.forall_mem_cons.2 ⟨s_iconst (k := 4) (by decide +kernel) (by decide +kernel), ?_⟩
  refine List.forall_mem_cons.2 ⟨s_icmp_ne (off := 7) (by decide +kernel) (by decide), ?_⟩
  refine List.forall_mem_cons.2 ⟨s_iconst (k := 0) (by decide +kernel) (by decide +kernel), ?_⟩
  refine List.forall_mem_cons.2 ⟨s_goto (off := 26) (by decide +kernel) (by decide), ?_⟩
  refine List.forall_mem_cons.2 ⟨s_aload_n (k := 0) (by decide +kernel) rfl, ?_⟩
  refine List.forall_mem_cons.2 ⟨s_getfield (C := q_n0) (T := q_T0) (N := 10) (idx := 39) (ref := "ProofDesk") (by decide +kernel) rfl q_in0 (by decide) (x_up mw_500) rfl, ?_⟩
  refine List.forall_mem_cons.2 ⟨s_iload_n (k := 1) (by decide +kernel) rfl, ?_⟩
  refine List.forall_mem_cons.2 ⟨s_aload (by decide +kernel), ?_⟩
  refine List.forall_mem_cons.2 ⟨s_getfield (C := q_n1) (T := q_T1) (N := 4) (idx := 103) (ref := "ProofDesk$Clause") (by decide +kernel) rfl q_in1 (by decide) (x_up mw_538) rfl, ?_⟩
  refine List.forall_mem_cons.2 ⟨s_iload_n (k := 3) (by decide +kernel) rfl, ?_⟩
  refine List.forall_mem_cons.2 ⟨s_aload (by decide +kernel), ?_⟩
  refine List.forall_mem_cons.2 ⟨s_getfield (C := q_n1) (T := q_T1) (N := 4) (idx := 103) (ref := "ProofDesk$Clause") (by decide +kernel) rfl q_in1 (by decide) (x_up mw_538) rfl, ?_⟩
  refine List.forall_mem_cons.2 ⟨s_iload (by decide +kernel), ?_⟩
  refine List.forall_mem_cons.2 ⟨s_iload (by decide +kernel), ?_⟩
  refine List.forall_mem_cons.2 ⟨s_invokevirtual (idx := 156) (M := 59) (k := 6) (ci := 2) (C := q_n2) (T := q_T2) (N := 8) (ym := q_y59) (wm := q_w59) (by decide +kernel) rfl rfl rfl (x_gdV mw_574 mw_575 mw_576 mw_422 mw_573) rfl (by decide +kernel) (by decide), ?_⟩
  refine List.forall_mem_cons.2 ⟨s_istore (by decide +kernel) (by decide), ?_⟩
  refine List.forall_mem_cons.2 ⟨s_iload (by decide +kernel), ?_⟩
  refine List.forall_mem_cons.2 ⟨s_ifeq (off := 6) (by decide +kernel) (by decide), ?_⟩
  refine List.forall_mem_cons.2 ⟨s_iload (by decide +kernel), ?_⟩
  refine List.forall_mem_cons.2 ⟨s_ireturn (ty := .int) (by decide +kernel) rfl, ?_⟩
  refine List.forall_mem_cons.2 ⟨s_aload_n (k := 0) (by decide +kernel) rfl, ?_⟩
  refine List.forall_mem_cons.2 ⟨s_getfield (C := q_n0) (T := q_T0) (N := 10) (idx := 134) (ref := "ProofDesk") (by decide +kernel) rfl q_in0 (by decide) (x_up mw_558) rfl, ?_⟩
  refine List.forall_mem_cons.2 ⟨s_ifeq (off := 19) (by decide +kernel) (by decide), ?_⟩
  refine List.forall_mem_cons.2 ⟨s_aload_n (k := 0) (by decide +kernel) rfl, ?_⟩
  refine List.forall_mem_cons.2 ⟨s_iload_n (k := 1) (by decide +kernel) rfl, ?_⟩
  refine List.forall_mem_cons.2 ⟨s_aload (by decide +kernel), ?_⟩
  refine List.forall_mem_cons.2 ⟨s_getfield (C := q_n1) (T := q_T1) (N := 4) (idx := 103) (ref := "ProofDesk$Clause") (by decide +kernel) rfl q_in1 (by decide) (x_up mw_538) rfl, ?_⟩
  refine List.forall_mem_cons.2 ⟨s_invokevirtual (idx := 160) (M := 84) (k := 2) (ci := 0) (C := q_n0) (T := q_T0) (N := 10) (ym := q_y84) (wm := q_w84) (by decide +kernel) rfl rfl rfl (x_gdV mw_578 mw_579 mw_580 mw_408 mw_577) rfl (by decide +kernel) (by decide), ?_⟩
  refine List.forall_mem_cons.2 ⟨s_ifne (off := 6) (by decide +kernel) (by decide), ?_⟩
  refine List.forall_mem_cons.2 ⟨s_bipush (k := -8) (by decide +kernel) (by decide +kernel), ?_⟩
  refine List.forall_mem_cons.2 ⟨s_ireturn (ty := .int) (by decide +kernel) rfl, ?_⟩
  refine List.forall_mem_cons.2 ⟨s_iload_n (k := 1) (by decide +kernel) rfl, ?_⟩
  refine List.forall_mem_cons.2 ⟨s_iconst (k := 4) (by decide +kernel) (by decide +kernel), ?_⟩
  refine List.forall_mem_cons.2 ⟨s_icmp_ne (off := 10) (by decide +kernel) (by decide), ?_⟩
  exact fun _ h => absurd h List.not_mem_nil
def q_k83_2 : List (Nat × xO) := [(164, x_lda 165 0), (165, x_gf 168 0 4), (168, x_st (x_goto 178)), (171, x_lda 172 0), (172, x_gf 175 0 7), (175, x_gf 178 2 0), (178, x_sta 180 10), (180, x_lda 181 0), (181, x_lda 183 10), (183, x_st (x_push 184 (.int (1)))), (184, x_lda 186 7), (186, x_gf 189 1 1), (189, x_lda 191 8), (191, x_gf 194 1 1), (194, x_st (x_mm 197 (fun a b => if a < b then b else a))), (197, x_st (x_bin 198 (fun a b => a + b))), (198, x_lda 200 7), (200, x_gf 203 1 2), (203, x_lda 205 8), (205, x_gf 208 1 2), (208, x_st (x_bin 209 (fun a b => a ||| b))), (209, x_cv 212 88 4 0), (212, x_st (x_push 213 (.int (0)))), (213, x_ri (.int))]
set_option maxRecDepth 100000 in
set_option maxHeartbeats 4000000 in
theorem q_s83_2 (l : Launch) (s0 : State) : ∀ q ∈ q_k83_2, x_Sim (x_K s0) none l q_y83 q_c83 11 (some .int) q_w83 q.1 q.2 := by
  unfold q_k83_2
  refine List.forall_mem_cons.2 ⟨s_aload_n (k := 0) (by decide +kernel) rfl, ?_⟩
  refine List.forall_mem_cons.2 ⟨s_getfield (C := q_n0) (T := q_T0) (N := 10) (idx := 32) (ref := "ProofDesk") (by decide +kernel) rfl q_in0 (by decide) (x_up mw_494) rfl, ?_⟩
  refine List.forall_mem_cons.2 ⟨s_goto (off := 10) (by decide +kernel) (by decide), ?_⟩
  refine List.forall_mem_cons.2 ⟨s_aload_n (k := 0) (by decide +kernel) rfl, ?_⟩
  refine List.forall_mem_cons.2 ⟨s_getfield (C := q_n0) (T := q_T0) (N := 10) (idx := 39) (ref := "ProofDesk") (by decide +kernel) rfl q_in0 (by decide) (x_up mw_500) rfl, ?_⟩
  refine List.forall_mem_cons.2 ⟨s_getfield (C := q_n2) (T := q_T2) (N := 8) (idx := 164) (ref := "ProofDesk$Deduction") (by decide +kernel) rfl q_in2 (by decide) (x_up mw_581) rfl, ?_⟩
  refine List.forall_mem_cons.2 ⟨s_astore (by decide +kernel) (by decide), ?_⟩
  refine List.forall_mem_cons.2 ⟨s_aload_n (k := 0) (by decide +kernel) rfl, ?_⟩
  refine List.forall_mem_cons.2 ⟨s_aload (by decide +kernel), ?_⟩
  refine List.forall_mem_cons.2 ⟨s_iconst (k := 1) (by decide +kernel) (by decide +kernel), ?_⟩
  refine List.forall_mem_cons.2 ⟨s_aload (by decide +kernel), ?_⟩
  refine List.forall_mem_cons.2 ⟨s_getfield (C := q_n1) (T := q_T1) (N := 4) (idx := 123) (ref := "ProofDesk$Clause") (by decide +kernel) rfl q_in1 (by decide) (x_up mw_551) rfl, ?_⟩
  refine List.forall_mem_cons.2 ⟨s_aload (by decide +kernel), ?_⟩
  refine List.forall_mem_cons.2 ⟨s_getfield (C := q_n1) (T := q_T1) (N := 4) (idx := 123) (ref := "ProofDesk$Clause") (by decide +kernel) rfl q_in1 (by decide) (x_up mw_551) rfl, ?_⟩
  refine List.forall_mem_cons.2 ⟨s_mmax (idx := 167) (by decide +kernel) (x_up mw_582) (x_up mw_583) (x_up mw_328) (x_up mw_584), ?_⟩
  refine List.forall_mem_cons.2 ⟨s_iadd (by decide +kernel), ?_⟩
  refine List.forall_mem_cons.2 ⟨s_aload (by decide +kernel), ?_⟩
  refine List.forall_mem_cons.2 ⟨s_getfield (C := q_n1) (T := q_T1) (N := 4) (idx := 126) (ref := "ProofDesk$Clause") (by decide +kernel) rfl q_in1 (by decide) (x_up mw_552) rfl, ?_⟩
  refine List.forall_mem_cons.2 ⟨s_aload (by decide +kernel), ?_⟩
  refine List.forall_mem_cons.2 ⟨s_getfield (C := q_n1) (T := q_T1) (N := 4) (idx := 126) (ref := "ProofDesk$Clause") (by decide +kernel) rfl q_in1 (by decide) (x_up mw_552) rfl, ?_⟩
  refine List.forall_mem_cons.2 ⟨s_ior (by decide +kernel), ?_⟩
  refine List.forall_mem_cons.2 ⟨s_invokevirtual (idx := 79) (M := 88) (k := 3) (ci := 0) (C := q_n0) (T := q_T0) (N := 10) (ym := q_y88) (wm := q_w88) (by decide +kernel) rfl rfl rfl (x_gdV mw_523 mw_524 mw_525 mw_408 mw_522) rfl (by decide +kernel) (by decide), ?_⟩
  refine List.forall_mem_cons.2 ⟨s_iconst (k := 0) (by decide +kernel) (by decide +kernel), ?_⟩
  refine List.forall_mem_cons.2 ⟨s_ireturn (ty := .int) (by decide +kernel) rfl, ?_⟩
  exact fun _ h => absurd h List.not_mem_nil
def q_k83 : List (Nat × xO) := q_k83_0 ++ q_k83_1 ++ q_k83_2
theorem q_s83 (l : Launch) (s0 : State) : ∀ q ∈ q_k83, x_Sim (x_K s0) none l q_y83 q_c83 11 (some .int) q_w83 q.1 q.2 := by
  intro q hq
  simp only [q_k83, List.mem_append] at hq
  rcases hq with (h0 | h1) | h2
  · exact q_s83_0 l s0 q h0
  · exact q_s83_1 l s0 q h1
  · exact q_s83_2 l s0 q h2
/-- ProofDesk.isClaimRight(ILProofDesk$Form;)Z -/
def q_k84_0 : List (Nat × xO) := [(0, x_ldi 1 1), (1, x_st (x_push 2 (.int (4)))), (2, x_st (x_icne 20 5)), (5, x_lda 6 0), (6, x_gf 9 0 8), (9, x_lda 10 2), (10, x_lda 11 0), (11, x_gf 14 0 4), (14, x_cv 17 53 3 6), (17, x_st (x_goto 34)), (20, x_lda 21 0), (21, x_gf 24 0 7), (24, x_gf 27 2 0), (27, x_lda 28 0), (28, x_gf 31 0 4), (31, x_cv 34 23 2 4), (34, x_ri (.boolean))]
set_option maxRecDepth 100000 in
set_option maxHeartbeats 4000000 in
theorem q_s84_0 (l : Launch) (s0 : State) : ∀ q ∈ q_k84_0, x_Sim (x_K s0) none l q_y84 q_c84 3 (some .boolean) q_w84 q.1 q.2 := by
  unfold q_k84_0
  refine List.forall_mem_cons.2 ⟨s_iload_n (k := 1) (by decide +kernel) rfl, ?_⟩
  refine List.forall_mem_cons.2 ⟨s_iconst (k := 4) (by decide +kernel) (by decide +kernel), ?_⟩
  refine List.forall_mem_cons.2 ⟨s_icmp_ne (off := 18) (by decide +kernel) (by decide), ?_⟩
  refine List.forall_mem_cons.2 ⟨s_aload_n (k := 0) (by decide +kernel) rfl, ?_⟩
  refine List.forall_mem_cons.2 ⟨s_getfield (C := q_n0) (T := q_T0) (N := 10) (idx := 46) (ref := "ProofDesk") (by decide +kernel) rfl q_in0 (by decide) (x_up mw_506) rfl, ?_⟩
  refine List.forall_mem_cons.2 ⟨s_aload_n (k := 2) (by decide +kernel) rfl, ?_⟩
  refine List.forall_mem_cons.2 ⟨s_aload_n (k := 0) (by decide +kernel) rfl, ?_⟩
  refine List.forall_mem_cons.2 ⟨s_getfield (C := q_n0) (T := q_T0) (N := 10) (idx := 32) (ref := "ProofDesk") (by decide +kernel) rfl q_in0 (by decide) (x_up mw_494) rfl, ?_⟩
  refine List.forall_mem_cons.2 ⟨s_invokevirtual (idx := 173) (M := 53) (k := 2) (ci := 6) (C := q_n6) (T := q_T6) (N := 3) (ym := q_y53) (wm := q_w53) (by decide +kernel) rfl rfl rfl (x_gdV mw_586 mw_587 mw_588 mw_371 mw_585) rfl (by decide +kernel) (by decide), ?_⟩
  refine List.forall_mem_cons.2 ⟨s_goto (off := 17) (by decide +kernel) (by decide), ?_⟩
  refine List.forall_mem_cons.2 ⟨s_aload_n (k := 0) (by decide +kernel) rfl, ?_⟩
  refine List.forall_mem_cons.2 ⟨s_getfield (C := q_n0) (T := q_T0) (N := 10) (idx := 39) (ref := "ProofDesk") (by decide +kernel) rfl q_in0 (by decide) (x_up mw_500) rfl, ?_⟩
  refine List.forall_mem_cons.2 ⟨s_getfield (C := q_n2) (T := q_T2) (N := 8) (idx := 164) (ref := "ProofDesk$Deduction") (by decide +kernel) rfl q_in2 (by decide) (x_up mw_581) rfl, ?_⟩
  refine List.forall_mem_cons.2 ⟨s_aload_n (k := 0) (by decide +kernel) rfl, ?_⟩
  refine List.forall_mem_cons.2 ⟨s_getfield (C := q_n0) (T := q_T0) (N := 10) (idx := 32) (ref := "ProofDesk") (by decide +kernel) rfl q_in0 (by decide) (x_up mw_494) rfl, ?_⟩
  refine List.forall_mem_cons.2 ⟨s_invokevirtual (idx := 177) (M := 23) (k := 1) (ci := 4) (C := q_n4) (T := q_T4) (N := 6) (ym := q_y23) (wm := q_w23) (by decide +kernel) rfl rfl rfl (x_gdV mw_590 mw_591 mw_592 mw_203 mw_589) rfl (by decide +kernel) (by decide), ?_⟩
  refine List.forall_mem_cons.2 ⟨s_ireturn (ty := .boolean) (by decide +kernel) rfl, ?_⟩
  exact fun _ h => absurd h List.not_mem_nil
def q_k84 : List (Nat × xO) := q_k84_0
theorem q_s84 (l : Launch) (s0 : State) : ∀ q ∈ q_k84, x_Sim (x_K s0) none l q_y84 q_c84 3 (some .boolean) q_w84 q.1 q.2 := q_s84_0 l s0
/-- ProofDesk.hasTwoParents(I)Z -/
def q_k85_0 : List (Nat × xO) := [(0, x_ldi 1 0), (1, x_st (x_ifeq 9 4)), (4, x_ldi 5 0), (5, x_st (x_push 6 (.int (3)))), (6, x_st (x_icne 13 9)), (9, x_st (x_push 10 (.int (1)))), (10, x_st (x_goto 14)), (13, x_st (x_push 14 (.int (0)))), (14, x_ri (.boolean))]
set_option maxRecDepth 100000 in
set_option maxHeartbeats 4000000 in
theorem q_s85_0 (l : Launch) (s0 : State) : ∀ q ∈ q_k85_0, x_Sim (x_K s0) none l q_y85 q_c85 1 (some .boolean) q_w85 q.1 q.2 := by
  unfold q_k85_0
  refine List.forall_mem_cons.2 ⟨s_iload_n (k := 0) (by decide +kernel) rfl, ?_⟩
  refine List.forall_mem_cons.2 ⟨s_ifeq (off := 8) (by decide +kernel) (by decide), ?_⟩
  refine List.forall_mem_cons.2 ⟨s_iload_n (k := 0) (by decide +kernel) rfl, ?_⟩
  refine List.forall_mem_cons.2 ⟨s_iconst (k := 3) (by decide +kernel) (by decide +kernel), ?_⟩
  refine List.forall_mem_cons.2 ⟨s_icmp_ne (off := 7) (by decide +kernel) (by decide), ?_⟩
  refine List.forall_mem_cons.2 ⟨s_iconst (k := 1) (by decide +kernel) (by decide +kernel), ?_⟩
  refine List.forall_mem_cons.2 ⟨s_goto (off := 4) (by decide +kernel) (by decide), ?_⟩
  refine List.forall_mem_cons.2 ⟨s_iconst (k := 0) (by decide +kernel) (by decide +kernel), ?_⟩
  refine List.forall_mem_cons.2 ⟨s_ireturn (ty := .boolean) (by decide +kernel) rfl, ?_⟩
  exact fun _ h => absurd h List.not_mem_nil
def q_k85 : List (Nat × xO) := q_k85_0
theorem q_s85 (l : Launch) (s0 : State) : ∀ q ∈ q_k85, x_Sim (x_K s0) none l q_y85 q_c85 1 (some .boolean) q_w85 q.1 q.2 := q_s85_0 l s0
/-- ProofDesk.isThere(ILProofDesk$Form;ILProofDesk$Form;II)Z -/
def q_k86_0 : List (Nat × xO) := [(0, x_ldi 1 1), (1, x_st (x_tsw 0 4 [36, 60, 83, 89, 128] 133)), (36, x_lda 37 2), (37, x_ldi 38 3), (38, x_cv 41 12 2 4), (41, x_st (x_ifeq 58 44)), (44, x_lda 46 4), (46, x_ldi 48 5), (48, x_cv 51 12 2 4), (51, x_st (x_ifeq 58 54)), (54, x_st (x_push 55 (.int (1)))), (55, x_st (x_goto 59)), (58, x_st (x_push 59 (.int (0)))), (59, x_ri (.boolean)), (60, x_lda 61 2), (61, x_ldi 62 3), (62, x_cv 65 12 2 4), (65, x_st (x_ifeq 81 68)), (68, x_lda 69 2), (69, x_ldi 71 5), (71, x_cv 74 12 2 4), (74, x_st (x_ifeq 81 77)), (77, x_st (x_push 78 (.int (1)))), (78, x_st (x_goto 82)), (81, x_st (x_push 82 (.int (0)))), (82, x_ri (.boolean)), (83, x_lda 84 2), (84, x_ldi 85 3), (85, x_cv 88 12 2 4), (88, x_ri (.boolean)), (89, x_lda 90 2), (90, x_ldi 91 3), (91, x_cv 94 12 2 4), (94, x_st (x_ifeq 126 97)), (97, x_lda 99 4), (99, x_ldi 101 5), (101, x_cv 104 12 2 4), (104, x_st (x_ifeq 126 107)), (107, x_lda 109 4), (109, x_ldi 111 5)]
set_option maxRecDepth 100000 in
set_option maxHeartbeats 4000000 in
theorem q_s86_0 (l : Launch) (s0 : State) : ∀ q ∈ q_k86_0, x_Sim (x_K s0) none l q_y86 q_c86 7 (some .boolean) q_w86 q.1 q.2 := by
  unfold q_k86_0
  refine List.forall_mem_cons.2 ⟨s_iload_n (k := 1) (by decide +kernel) rfl, ?_⟩
  refine List.forall_mem_cons.2 ⟨s_tsw (dflt := 132) (lo := 0) (hi := 4) (offs := #[35, 59, 82, 88, 127]) (len := 35) (by decide +kernel) (by decide) (by decide +kernel), ?_⟩
  refine List.forall_mem_cons.2 ⟨s_aload_n (k := 2) (by decide +kernel) rfl, ?_⟩
  refine List.forall_mem_cons.2 ⟨s_iload_n (k := 3) (by decide +kernel) rfl, ?_⟩
  refine List.forall_mem_cons.2 ⟨s_invokevirtual (idx := 180) (M := 12) (k := 1) (ci := 4) (C := q_n4) (T := q_T4) (N := 6) (ym := q_y12) (wm := q_w12) (by decide +kernel) rfl rfl rfl (x_gdV mw_594 mw_595 mw_596 mw_203 mw_593) rfl (by decide +kernel) (by decide), ?_⟩
  refine List.forall_mem_cons.2 ⟨s_ifeq (off := 17) (by decide +kernel) (by decide), ?_⟩
  refine List.forall_mem_cons.2 ⟨s_aload (by decide +kernel), ?_⟩
  refine List.forall_mem_cons.2 ⟨s_iload (by decide +kernel), ?_⟩
  refine List.forall_mem_cons.2 ⟨s_invokevirtual (idx := 180) (M := 12) (k := 1) (ci := 4) (C := q_n4) (T := q_T4) (N := 6) (ym := q_y12) (wm := q_w12) (by decide +kernel) rfl rfl rfl (x_gdV mw_594 mw_595 mw_596 mw_203 mw_593) rfl (by decide +kernel) (by decide), ?_⟩
  refine List.forall_mem_cons.2 ⟨s_ifeq (off := 7) (by decide +kernel) (by decide), ?_⟩
  refine List.forall_mem_cons.2 ⟨s_iconst (k := 1) (by decide +kernel) (by decide +kernel), ?_⟩
  refine List.forall_mem_cons.2 ⟨s_goto (off := 4) (by decide +kernel) (by decide), ?_⟩
  refine List.forall_mem_cons.2 ⟨s_iconst (k := 0) (by decide +kernel) (by decide +kernel), ?_⟩
  refine List.forall_mem_cons.2 ⟨s_ireturn (ty := .boolean) (by decide +kernel) rfl, ?_⟩
  refine List.forall_mem_cons.2 ⟨s_aload_n (k := 2) (by decide +kernel) rfl, ?_⟩
  refine List.forall_mem_cons.2 ⟨s_iload_n (k := 3) (by decide +kernel) rfl, ?_⟩
  refine List.forall_mem_cons.2 ⟨s_invokevirtual (idx := 180) (M := 12) (k := 1) (ci := 4) (C := q_n4) (T := q_T4) (N := 6) (ym := q_y12) (wm := q_w12) (by decide +kernel) rfl rfl rfl (x_gdV mw_594 mw_595 mw_596 mw_203 mw_593) rfl (by decide +kernel) (by decide), ?_⟩
  refine List.forall_mem_cons.2 ⟨s_ifeq (off := 16) (by decide +kernel) (by decide), ?_⟩
  refine List.forall_mem_cons.2 ⟨s_aload_n (k := 2) (by decide +kernel) rfl, ?_⟩
  refine List.forall_mem_cons.2 ⟨s_iload (by decide +kernel), ?_⟩
  refine List.forall_mem_cons.2 ⟨s_invokevirtual (idx := 180) (M := 12) (k := 1) (ci := 4) (C := q_n4) (T := q_T4) (N := 6) (ym := q_y12) (wm := q_w12) (by decide +kernel) rfl rfl rfl (x_gdV mw_594 mw_595 mw_596 mw_203 mw_593) rfl (by decide +kernel) (by decide), ?_⟩
  refine List.forall_mem_cons.2 ⟨s_ifeq (off := 7) (by decide +kernel) (by decide), ?_⟩
  refine List.forall_mem_cons.2 ⟨s_iconst (k := 1) (by decide +kernel) (by decide +kernel), ?_⟩
  refine List.forall_mem_cons.2 ⟨s_goto (off := 4) (by decide +kernel) (by decide), ?_⟩
  refine List.forall_mem_cons.2 ⟨s_iconst (k := 0) (by decide +kernel) (by decide +kernel), ?_⟩
  refine List.forall_mem_cons.2 ⟨s_ireturn (ty := .boolean) (by decide +kernel) rfl, ?_⟩
  refine List.forall_mem_cons.2 ⟨s_aload_n (k := 2) (by decide +kernel) rfl, ?_⟩
  refine List.forall_mem_cons.2 ⟨s_iload_n (k := 3) (by decide +kernel) rfl, ?_⟩
  refine List.forall_mem_cons.2 ⟨s_invokevirtual (idx := 180) (M := 12) (k := 1) (ci := 4) (C := q_n4) (T := q_T4) (N := 6) (ym := q_y12) (wm := q_w12) (by decide +kernel) rfl rfl rfl (x_gdV mw_594 mw_595 mw_596 mw_203 mw_593) rfl (by decide +kernel) (by decide), ?_⟩
  refine List.forall_mem_cons.2 ⟨s_ireturn (ty := .boolean) (by decide +kernel) rfl, ?_⟩
  refine List.forall_mem_cons.2 ⟨s_aload_n (k := 2) (by decide +kernel) rfl, ?_⟩
  refine List.forall_mem_cons.2 ⟨s_iload_n (k := 3) (by decide +kernel) rfl, ?_⟩
  refine List.forall_mem_cons.2 ⟨s_invokevirtual (idx := 180) (M := 12) (k := 1) (ci := 4) (C := q_n4) (T := q_T4) (N := 6) (ym := q_y12) (wm := q_w12) (by decide +kernel) rfl rfl rfl (x_gdV mw_594 mw_595 mw_596 mw_203 mw_593) rfl (by decide +kernel) (by decide), ?_⟩
  refine List.forall_mem_cons.2 ⟨s_ifeq (off := 32) (by decide +kernel) (by decide), ?_⟩
  refine List.forall_mem_cons.2 ⟨s_aload (by decide +kernel), ?_⟩
  refine List.forall_mem_cons.2 ⟨s_iload (by decide +kernel), ?_⟩
  refine List.forall_mem_cons.2 ⟨s_invokevirtual (idx := 180) (M := 12) (k := 1) (ci := 4) (C := q_n4) (T := q_T4) (N := 6) (ym := q_y12) (wm := q_w12) (by decide +kernel) rfl rfl rfl (x_gdV mw_594 mw_595 mw_596 mw_203 mw_593) rfl (by decide +kernel) (by decide), ?_⟩
  refine List.forall_mem_cons.2 ⟨s_ifeq (off := 22) (by decide +kernel) (by decide), ?_⟩
  refine List.forall_mem_cons.2 ⟨s_aload (by decide +kernel), ?_⟩
  refine List.forall_mem_cons.2 ⟨s_iload (by decide +kernel), ?_⟩
  exact fun _ h => absurd h List.not_mem_nil
def q_k86_1 : List (Nat × xO) := [(111, x_ldi 113 6), (113, x_cl_ 116 87 1), (116, x_cv 119 14 3 4), (119, x_st (x_ifeq 126 122)), (122, x_st (x_push 123 (.int (1)))), (123, x_st (x_goto 127)), (126, x_st (x_push 127 (.int (0)))), (127, x_ri (.boolean)), (128, x_lda 129 0), (129, x_gf 132 0 5), (132, x_ri (.boolean)), (133, x_st (x_push 134 (.int (0)))), (134, x_ri (.boolean))]
set_option maxRecDepth 100000 in
set_option maxHeartbeats 4000000 in
theorem q_s86_1 (l : Launch) (s0 : State) : ∀ q ∈ q_k86_1, x_Sim (x_K s0) none l q_y86 q_c86 7 (some .boolean) q_w86 q.1 q.2 := by
  unfold q_k86_1
  refine List.forall_mem_cons.2 ⟨s_iload (by decide +kernel), ?_⟩
  refine List.forall_mem_cons.2 ⟨s_invokestatic (idx := 183) (M := 87) (ym := q_y87) (wm := q_w87) (by decide +kernel) rfl rfl (x_gdS mw_597 mw_464 mw_408 mw_463) rfl (by decide +kernel) (by decide), ?_⟩
  refine List.forall_mem_cons.2 ⟨s_invokevirtual (idx := 187) (M := 14) (k := 2) (ci := 4) (C := q_n4) (T := q_T4) (N := 6) (ym := q_y14) (wm := q_w14) (by decide +kernel) rfl rfl rfl (x_gdV mw_599 mw_600 mw_601 mw_203 mw_598) rfl (by decide +kernel) (by decide), ?_⟩
  refine List.forall_mem_cons.2 ⟨s_ifeq (off := 7) (by decide +kernel) (by decide), ?_⟩
  refine List.forall_mem_cons.2 ⟨s_iconst (k := 1) (by decide +kernel) (by decide +kernel), ?_⟩
  refine List.forall_mem_cons.2 ⟨s_goto (off := 4) (by decide +kernel) (by decide), ?_⟩
  refine List.forall_mem_cons.2 ⟨s_iconst (k := 0) (by decide +kernel) (by decide +kernel), ?_⟩
  refine List.forall_mem_cons.2 ⟨s_ireturn (ty := .boolean) (by decide +kernel) rfl, ?_⟩
  refine List.forall_mem_cons.2 ⟨s_aload_n (k := 0) (by decide +kernel) rfl, ?_⟩
  refine List.forall_mem_cons.2 ⟨s_getfield (C := q_n0) (T := q_T0) (N := 10) (idx := 134) (ref := "ProofDesk") (by decide +kernel) rfl q_in0 (by decide) (x_up mw_558) rfl, ?_⟩
  refine List.forall_mem_cons.2 ⟨s_ireturn (ty := .boolean) (by decide +kernel) rfl, ?_⟩
  refine List.forall_mem_cons.2 ⟨s_iconst (k := 0) (by decide +kernel) (by decide +kernel), ?_⟩
  refine List.forall_mem_cons.2 ⟨s_ireturn (ty := .boolean) (by decide +kernel) rfl, ?_⟩
  exact fun _ h => absurd h List.not_mem_nil
def q_k86 : List (Nat × xO) := q_k86_0 ++ q_k86_1
theorem q_s86 (l : Launch) (s0 : State) : ∀ q ∈ q_k86, x_Sim (x_K s0) none l q_y86 q_c86 7 (some .boolean) q_w86 q.1 q.2 := by
  intro q hq
  simp only [q_k86, List.mem_append] at hq
  rcases hq with h0 | h1
  · exact q_s86_0 l s0 q h0
  · exact q_s86_1 l s0 q h1
/-- ProofDesk.placeOf(I)I -/
def q_k87_0 : List (Nat × xO) := [(0, x_ldi 1 0), (1, x_st (x_push 3 (.int (100)))), (3, x_st (x_iclt 13 6)), (6, x_ldi 7 0), (7, x_st (x_push 9 (.int (100)))), (9, x_st (x_bin 10 (fun a b => a - b))), (10, x_st (x_goto 14)), (13, x_ldi 14 0), (14, x_ri (.int))]
set_option maxRecDepth 100000 in
set_option maxHeartbeats 4000000 in
theorem q_s87_0 (l : Launch) (s0 : State) : ∀ q ∈ q_k87_0, x_Sim (x_K s0) none l q_y87 q_c87 1 (some .int) q_w87 q.1 q.2 := by
  unfold q_k87_0
  refine List.forall_mem_cons.2 ⟨s_iload_n (k := 0) (by decide +kernel) rfl, ?_⟩
  refine List.forall_mem_cons.2 ⟨s_bipush (k := 100) (by decide +kernel) (by decide +kernel), ?_⟩
  refine List.forall_mem_cons.2 ⟨s_icmp_lt (off := 10) (by decide +kernel) (by decide), ?_⟩
  refine List.forall_mem_cons.2 ⟨s_iload_n (k := 0) (by decide +kernel) rfl, ?_⟩
  refine List.forall_mem_cons.2 ⟨s_bipush (k := 100) (by decide +kernel) (by decide +kernel), ?_⟩
  refine List.forall_mem_cons.2 ⟨s_isub (by decide +kernel), ?_⟩
  refine List.forall_mem_cons.2 ⟨s_goto (off := 4) (by decide +kernel) (by decide), ?_⟩
  refine List.forall_mem_cons.2 ⟨s_iload_n (k := 0) (by decide +kernel) rfl, ?_⟩
  refine List.forall_mem_cons.2 ⟨s_ireturn (ty := .int) (by decide +kernel) rfl, ?_⟩
  exact fun _ h => absurd h List.not_mem_nil
def q_k87 : List (Nat × xO) := q_k87_0
theorem q_s87 (l : Launch) (s0 : State) : ∀ q ∈ q_k87, x_Sim (x_K s0) none l q_y87 q_c87 1 (some .int) q_w87 q.1 q.2 := q_s87_0 l s0
/-- ProofDesk.addClause(LProofDesk$Form;II)V -/
def q_k88_0 : List (Nat × xO) := [(0, x_lda 1 0), (1, x_gf 4 0 2), (4, x_st (x_push 6 (.int (30)))), (6, x_st (x_icge 57 9)), (9, x_lda 10 0), (10, x_gf 13 0 3), (13, x_lda 14 1), (14, x_cv 17 37 2 7), (17, x_lda 18 0), (18, x_gf 21 0 1), (21, x_lda 22 0), (22, x_gf 25 0 2), (25, x_nw_ 28 1 [.null, .int 0, .int 0, .null]), (28, x_st (x_dup 29)), (29, x_nw_ 32 4 [.null, .null, .null, .int 0, .int 0, .int 0]), (32, x_st (x_dup 33)), (33, x_lda 34 1), (34, x_cs 37 9 2), (37, x_ldi 38 2), (38, x_ldi 39 3), (39, x_lda 40 1), (40, x_cl_ 43 89 1), (43, x_cs 46 7 5), (46, x_astr 47 4 1), (47, x_lda 48 0), (48, x_st (x_dup 49)), (49, x_gf 52 0 2), (52, x_st (x_push 53 (.int (1)))), (53, x_st (x_bin 54 (fun a b => a + b))), (54, x_pf 57 0 2 (.int)), (57, x_rv)]
set_option maxRecDepth 100000 in
set_option maxHeartbeats 4000000 in
theorem q_s88_0 (l : Launch) (s0 : State) : ∀ q ∈ q_k88_0, x_Sim (x_K s0) none l q_y88 q_c88 4 none q_w88 q.1 q.2 := by
  unfold q_k88_0
  refine List.forall_mem_cons.2 ⟨s_aload_n (k := 0) (by decide +kernel) rfl, ?_⟩
  refine List.forall_mem_cons.2 ⟨s_getfield (C := q_n0) (T := q_T0) (N := 10) (idx := 61) (ref := "ProofDesk") (by decide +kernel) rfl q_in0 (by decide) (x_up mw_516) rfl, ?_⟩
  refine List.forall_mem_cons.2 ⟨s_bipush (k := 30) (by decide +kernel) (by decide +kernel), ?_⟩
  refine List.forall_mem_cons.2 ⟨s_icmp_ge (off := 51) (by decide +kernel) (by decide), ?_⟩
  refine List.forall_mem_cons.2 ⟨s_aload_n (k := 0) (by decide +kernel) rfl, ?_⟩
  refine List.forall_mem_cons.2 ⟨s_getfield (C := q_n0) (T := q_T0) (N := 10) (idx := 25) (ref := "ProofDesk") (by decide +kernel) rfl q_in0 (by decide) (x_up mw_491) rfl, ?_⟩
  refine List.forall_mem_cons.2 ⟨s_aload_n (k := 1) (by decide +kernel) rfl, ?_⟩
  refine List.forall_mem_cons.2 ⟨s_invokevirtual (idx := 191) (M := 37) (k := 1) (ci := 7) (C := q_n7) (T := q_T7) (N := 2) (ym := q_y37) (wm := q_w37) (by decide +kernel) rfl rfl rfl (x_gdV mw_603 mw_604 mw_605 mw_298 mw_602) rfl (by decide +kernel) (by decide), ?_⟩
  refine List.forall_mem_cons.2 ⟨s_aload_n (k := 0) (by decide +kernel) rfl, ?_⟩
  refine List.forall_mem_cons.2 ⟨s_getfield (C := q_n0) (T := q_T0) (N := 10) (idx := 18) (ref := "ProofDesk") (by decide +kernel) rfl q_in0 (by decide) (x_up mw_485) rfl, ?_⟩
  refine List.forall_mem_cons.2 ⟨s_aload_n (k := 0) (by decide +kernel) rfl, ?_⟩
  refine List.forall_mem_cons.2 ⟨s_getfield (C := q_n0) (T := q_T0) (N := 10) (idx := 61) (ref := "ProofDesk") (by decide +kernel) rfl q_in0 (by decide) (x_up mw_516) rfl, ?_⟩
  refine List.forall_mem_cons.2 ⟨s_new (C := q_n1) (T := q_T1) (N := 4) (idx := 16) q_t1 (by decide +kernel) rfl q_in1 q_ty1 (x_up mw_484) (x_up mw_606) (x_up mw_607) rfl (by decide +kernel) rfl, ?_⟩
  refine List.forall_mem_cons.2 ⟨s_dup (by decide +kernel), ?_⟩
  refine List.forall_mem_cons.2 ⟨s_new (C := q_n4) (T := q_T4) (N := 6) (idx := 29) q_t4 (by decide +kernel) rfl q_in4 q_ty4 (x_up mw_492) (x_up mw_395) (x_up mw_203) rfl (by decide +kernel) rfl, ?_⟩
  refine List.forall_mem_cons.2 ⟨s_dup (by decide +kernel), ?_⟩
  refine List.forall_mem_cons.2 ⟨s_aload_n (k := 1) (by decide +kernel) rfl, ?_⟩
  refine List.forall_mem_cons.2 ⟨s_invokespecial (idx := 195) (M := 9) (k := 1) (ym := q_y9) (wm := q_w9) (by decide +kernel) rfl rfl (x_gd1 mw_608) (x_up mw_609) (x_up mw_610) (x_up mw_203) rfl rfl (by decide +kernel) (by decide), ?_⟩
  refine List.forall_mem_cons.2 ⟨s_iload_n (k := 2) (by decide +kernel) rfl, ?_⟩
  refine List.forall_mem_cons.2 ⟨s_iload_n (k := 3) (by decide +kernel) rfl, ?_⟩
  refine List.forall_mem_cons.2 ⟨s_aload_n (k := 1) (by decide +kernel) rfl, ?_⟩
  refine List.forall_mem_cons.2 ⟨s_invokestatic (idx := 197) (M := 89) (ym := q_y89) (wm := q_w89) (by decide +kernel) rfl rfl (x_gdS mw_612 mw_613 mw_408 mw_611) rfl (by decide +kernel) (by decide), ?_⟩
  refine List.forall_mem_cons.2 ⟨s_invokespecial (idx := 201) (M := 7) (k := 4) (ym := q_y7) (wm := q_w7) (by decide +kernel) rfl rfl (x_gd1 mw_614) (x_up mw_615) (x_up mw_616) (x_up mw_607) rfl rfl (by decide +kernel) (by decide), ?_⟩
  refine List.forall_mem_cons.2 ⟨s_aast (C := "ProofDesk$Clause") (by decide +kernel) rfl rfl, ?_⟩
  refine List.forall_mem_cons.2 ⟨s_aload_n (k := 0) (by decide +kernel) rfl, ?_⟩
  refine List.forall_mem_cons.2 ⟨s_dup (by decide +kernel), ?_⟩
  refine List.forall_mem_cons.2 ⟨s_getfield (C := q_n0) (T := q_T0) (N := 10) (idx := 61) (ref := "ProofDesk") (by decide +kernel) rfl q_in0 (by decide) (x_up mw_516) rfl, ?_⟩
  refine List.forall_mem_cons.2 ⟨s_iconst (k := 1) (by decide +kernel) (by decide +kernel), ?_⟩
  refine List.forall_mem_cons.2 ⟨s_iadd (by decide +kernel), ?_⟩
  refine List.forall_mem_cons.2 ⟨s_putfield (C := q_n0) (T := q_T0) (N := 10) (idx := 61) (ref := "ProofDesk") q_t0 (by decide +kernel) rfl q_in0 q_ty0 q_nm0 (by decide) (x_up mw_516) rfl rfl (by decide +kernel), ?_⟩
  refine List.forall_mem_cons.2 ⟨s_return (by decide +kernel) rfl, ?_⟩
  exact fun _ h => absurd h List.not_mem_nil
def q_k88 : List (Nat × xO) := q_k88_0
theorem q_s88 (l : Launch) (s0 : State) : ∀ q ∈ q_k88, x_Sim (x_K s0) none l q_y88 q_c88 4 none q_w88 q.1 q.2 := q_s88_0 l s0
/-- ProofDesk.textOf(LProofDesk$Form;)Ljava/lang/String; -/
def q_k89_0 : List (Nat × xO) := [(0, x_lda 1 0), (1, x_gf 4 4 3), (4, x_st (x_ifne 10 7)), (7, x_st (x_push 9 (.ref 0))), (9, x_ra), (10, x_nw_ 13 14 [.null, .int 0, .int 0, .int 0]), (13, x_st (x_dup 14)), (14, x_cs 17 157 1), (17, x_sta 18 1), (18, x_st (x_push 19 (.int (0)))), (19, x_sti 20 2), (20, x_ldi 21 2), (21, x_lda 22 0), (22, x_gf 25 4 3), (25, x_st (x_icge 100 28)), (28, x_ldi 29 2), (29, x_st (x_ifle 39 32)), (32, x_lda 33 1), (33, x_st (x_push 35 (.int (124)))), (35, x_cv 38 159 2 14), (38, x_st (x_pop 39)), (39, x_lda 40 0), (40, x_gf 43 4 2), (43, x_ldi 44 2), (44, x_ald 45 1), (45, x_st (x_ifeq 55 48)), (48, x_lda 49 1), (49, x_st (x_push 51 (.int (126)))), (51, x_cv 54 159 2 14), (54, x_st (x_pop 55)), (55, x_lda 56 0), (56, x_ldi 57 2), (57, x_cv 60 11 2 4), (60, x_sti 61 3), (61, x_lda 62 0), (62, x_ldi 63 2), (63, x_cv 66 13 2 4), (66, x_st (x_ifeq 86 69)), (69, x_lda 70 1), (70, x_lda 71 0)]
set_option maxRecDepth 100000 in
set_option maxHeartbeats 4000000 in
theorem q_s89_0 (l : Launch) (s0 : State) : ∀ q ∈ q_k89_0, x_Sim (x_K s0) none l q_y89 q_c89 4 (some (.object "java/lang/String")) q_w89 q.1 q.2 := by
  unfold q_k89_0
  refine List.forall_mem_cons.2 ⟨s_aload_n (k := 0) (by decide +kernel) rfl, ?_⟩
  refine List.forall_mem_cons.2 ⟨s_getfield (C := q_n4) (T := q_T4) (N := 6) (idx := 106) (ref := "ProofDesk$Form") (by decide +kernel) rfl q_in4 (by decide) (x_up mw_539) rfl, ?_⟩
  refine List.forall_mem_cons.2 ⟨s_ifne (off := 6) (by decide +kernel) (by decide), ?_⟩
  refine List.forall_mem_cons.2 ⟨s_ldcH rfl (by decide +kernel), ?_⟩
  refine List.forall_mem_cons.2 ⟨s_areturn (rt := .object "java/lang/String") (by decide +kernel) rfl (Or.inl ⟨_, rfl⟩), ?_⟩
  refine List.forall_mem_cons.2 ⟨s_new (C := q_n14) (T := q_T14) (N := 4) (idx := 206) q_t14 (by decide +kernel) rfl q_in14 q_ty14 (x_up mw_617) (x_up mw_618) (x_up mw_619) rfl (by decide +kernel) rfl, ?_⟩
  refine List.forall_mem_cons.2 ⟨s_dup (by decide +kernel), ?_⟩
  refine List.forall_mem_cons.2 ⟨s_invokespecial (idx := 208) (M := 157) (k := 0) (ym := q_y157) (wm := q_w157) (by decide +kernel) rfl rfl (x_gd1 mw_620) (x_up mw_621) (x_up mw_622) (x_up mw_619) rfl rfl (by decide +kernel) (by decide), ?_⟩
  refine List.forall_mem_cons.2 ⟨s_astore_n (k := 1) (by decide +kernel) rfl (by decide), ?_⟩
  refine List.forall_mem_cons.2 ⟨s_iconst (k := 0) (by decide +kernel) (by decide +kernel), ?_⟩
  refine List.forall_mem_cons.2 ⟨s_istore_n (k := 2) (by decide +kernel) rfl (by decide), ?_⟩
  refine List.forall_mem_cons.2 ⟨s_iload_n (k := 2) (by decide +kernel) rfl, ?_⟩
  refine List.forall_mem_cons.2 ⟨s_aload_n (k := 0) (by decide +kernel) rfl, ?_⟩
  refine List.forall_mem_cons.2 ⟨s_getfield (C := q_n4) (T := q_T4) (N := 6) (idx := 106) (ref := "ProofDesk$Form") (by decide +kernel) rfl q_in4 (by decide) (x_up mw_539) rfl, ?_⟩
  refine List.forall_mem_cons.2 ⟨s_icmp_ge (off := 75) (by decide +kernel) (by decide), ?_⟩
  refine List.forall_mem_cons.2 ⟨s_iload_n (k := 2) (by decide +kernel) rfl, ?_⟩
  refine List.forall_mem_cons.2 ⟨s_ifle (off := 10) (by decide +kernel) (by decide), ?_⟩
  refine List.forall_mem_cons.2 ⟨s_aload_n (k := 1) (by decide +kernel) rfl, ?_⟩
  refine List.forall_mem_cons.2 ⟨s_bipush (k := 124) (by decide +kernel) (by decide +kernel), ?_⟩
  refine List.forall_mem_cons.2 ⟨s_invokevirtual (idx := 209) (M := 159) (k := 1) (ci := 14) (C := q_n14) (T := q_T14) (N := 4) (ym := q_y159) (wm := q_w159) (by decide +kernel) rfl rfl rfl (x_gdV mw_624 mw_625 mw_626 mw_619 mw_623) rfl (by decide +kernel) (by decide), ?_⟩
  refine List.forall_mem_cons.2 ⟨s_pop (by decide +kernel), ?_⟩
  refine List.forall_mem_cons.2 ⟨s_aload_n (k := 0) (by decide +kernel) rfl, ?_⟩
  refine List.forall_mem_cons.2 ⟨s_getfield (C := q_n4) (T := q_T4) (N := 6) (idx := 212) (ref := "ProofDesk$Form") (by decide +kernel) rfl q_in4 (by decide) (x_up mw_627) rfl, ?_⟩
  refine List.forall_mem_cons.2 ⟨s_iload_n (k := 2) (by decide +kernel) rfl, ?_⟩
  refine List.forall_mem_cons.2 ⟨s_zald (by decide +kernel) rfl, ?_⟩
  refine List.forall_mem_cons.2 ⟨s_ifeq (off := 10) (by decide +kernel) (by decide), ?_⟩
  refine List.forall_mem_cons.2 ⟨s_aload_n (k := 1) (by decide +kernel) rfl, ?_⟩
  refine List.forall_mem_cons.2 ⟨s_bipush (k := 126) (by decide +kernel) (by decide +kernel), ?_⟩
  refine List.forall_mem_cons.2 ⟨s_invokevirtual (idx := 209) (M := 159) (k := 1) (ci := 14) (C := q_n14) (T := q_T14) (N := 4) (ym := q_y159) (wm := q_w159) (by decide +kernel) rfl rfl rfl (x_gdV mw_624 mw_625 mw_626 mw_619 mw_623) rfl (by decide +kernel) (by decide), ?_⟩
  refine List.forall_mem_cons.2 ⟨s_pop (by decide +kernel), ?_⟩
  refine List.forall_mem_cons.2 ⟨s_aload_n (k := 0) (by decide +kernel) rfl, ?_⟩
  refine List.forall_mem_cons.2 ⟨s_iload_n (k := 2) (by decide +kernel) rfl, ?_⟩
  refine List.forall_mem_cons.2 ⟨s_invokevirtual (idx := 216) (M := 11) (k := 1) (ci := 4) (C := q_n4) (T := q_T4) (N := 6) (ym := q_y11) (wm := q_w11) (by decide +kernel) rfl rfl rfl (x_gdV mw_628 mw_201 mw_202 mw_203 mw_199) rfl (by decide +kernel) (by decide), ?_⟩
  refine List.forall_mem_cons.2 ⟨s_istore_n (k := 3) (by decide +kernel) rfl (by decide), ?_⟩
  refine List.forall_mem_cons.2 ⟨s_aload_n (k := 0) (by decide +kernel) rfl, ?_⟩
  refine List.forall_mem_cons.2 ⟨s_iload_n (k := 2) (by decide +kernel) rfl, ?_⟩
  refine List.forall_mem_cons.2 ⟨s_invokevirtual (idx := 219) (M := 13) (k := 1) (ci := 4) (C := q_n4) (T := q_T4) (N := 6) (ym := q_y13) (wm := q_w13) (by decide +kernel) rfl rfl rfl (x_gdV mw_629 mw_226 mw_227 mw_203 mw_224) rfl (by decide +kernel) (by decide), ?_⟩
  refine List.forall_mem_cons.2 ⟨s_ifeq (off := 20) (by decide +kernel) (by decide), ?_⟩
  refine List.forall_mem_cons.2 ⟨s_aload_n (k := 1) (by decide +kernel) rfl, ?_⟩
  refine List.forall_mem_cons.2 ⟨s_aload_n (k := 0) (by decide +kernel) rfl, ?_⟩
  exact fun _ h => absurd h List.not_mem_nil
def q_k89_1 : List (Nat × xO) := [(71, x_ldi 72 3), (72, x_st (x_push 73 (.int (1)))), (73, x_st (x_bin 74 (fun a b => a + b))), (74, x_st (x_push 75 (.int (0)))), (75, x_cl_ 78 90 4), (78, x_sti 79 3), (79, x_lda 80 1), (80, x_st (x_push 82 (.int (61)))), (82, x_cv 85 159 2 14), (85, x_st (x_pop 86)), (86, x_lda 87 1), (87, x_lda 88 0), (88, x_ldi 89 3), (89, x_st (x_push 90 (.int (0)))), (90, x_cl_ 93 90 4), (93, x_st (x_pop 94)), (94, x_iinc 97 2 (1)), (97, x_st (x_goto 20)), (100, x_lda 101 1), (101, x_cv 104 167 1 14), (104, x_ra)]
set_option maxRecDepth 100000 in
set_option maxHeartbeats 4000000 in
theorem q_s89_1 (l : Launch) (s0 : State) : ∀ q ∈ q_k89_1, x_Sim (x_K s0) none l q_y89 q_c89 4 (some (.object "java/lang/String")) q_w89 q.1 q.2 := by
  unfold q_k89_1
  refine List.forall_mem_cons.2 ⟨s_iload_n (k := 3) (by decide +kernel) rfl, ?_⟩
  refine List.forall_mem_cons.2 ⟨s_iconst (k := 1) (by decide +kernel) (by decide +kernel), ?_⟩
  refine List.forall_mem_cons.2 ⟨s_iadd (by decide +kernel), ?_⟩
  refine List.forall_mem_cons.2 ⟨s_iconst (k := 0) (by decide +kernel) (by decide +kernel), ?_⟩
  refine List.forall_mem_cons.2 ⟨s_invokestatic (idx := 222) (M := 90) (ym := q_y90) (wm := q_w90) (by decide +kernel) rfl rfl (x_gdS mw_631 mw_632 mw_408 mw_630) rfl (by decide +kernel) (by decide), ?_⟩
  refine List.forall_mem_cons.2 ⟨s_istore_n (k := 3) (by decide +kernel) rfl (by decide), ?_⟩
  refine List.forall_mem_cons.2 ⟨s_aload_n (k := 1) (by decide +kernel) rfl, ?_⟩
  refine List.forall_mem_cons.2 ⟨s_bipush (k := 61) (by decide +kernel) (by decide +kernel), ?_⟩
  refine List.forall_mem_cons.2 ⟨s_invokevirtual (idx := 209) (M := 159) (k := 1) (ci := 14) (C := q_n14) (T := q_T14) (N := 4) (ym := q_y159) (wm := q_w159) (by decide +kernel) rfl rfl rfl (x_gdV mw_624 mw_625 mw_626 mw_619 mw_623) rfl (by decide +kernel) (by decide), ?_⟩
  refine List.forall_mem_cons.2 ⟨s_pop (by decide +kernel), ?_⟩
  refine List.forall_mem_cons.2 ⟨s_aload_n (k := 1) (by decide +kernel) rfl, ?_⟩
  refine List.forall_mem_cons.2 ⟨s_aload_n (k := 0) (by decide +kernel) rfl, ?_⟩
  refine List.forall_mem_cons.2 ⟨s_iload_n (k := 3) (by decide +kernel) rfl, ?_⟩
  refine List.forall_mem_cons.2 ⟨s_iconst (k := 0) (by decide +kernel) (by decide +kernel), ?_⟩
  refine List.forall_mem_cons.2 ⟨s_invokestatic (idx := 222) (M := 90) (ym := q_y90) (wm := q_w90) (by decide +kernel) rfl rfl (x_gdS mw_631 mw_632 mw_408 mw_630) rfl (by decide +kernel) (by decide), ?_⟩
  refine List.forall_mem_cons.2 ⟨s_pop (by decide +kernel), ?_⟩
  refine List.forall_mem_cons.2 ⟨s_iinc (k := 1) (by decide +kernel) (by decide +kernel) (by decide), ?_⟩
  refine List.forall_mem_cons.2 ⟨s_goto (off := -77) (by decide +kernel) (by decide), ?_⟩
  refine List.forall_mem_cons.2 ⟨s_aload_n (k := 1) (by decide +kernel) rfl, ?_⟩
  refine List.forall_mem_cons.2 ⟨s_invokevirtual (idx := 226) (M := 167) (k := 0) (ci := 14) (C := q_n14) (T := q_T14) (N := 4) (ym := q_y167) (wm := q_w167) (by decide +kernel) rfl rfl rfl (x_gdV mw_634 mw_635 mw_636 mw_619 mw_633) rfl (by decide +kernel) (by decide), ?_⟩
  refine List.forall_mem_cons.2 ⟨s_areturn (rt := .object "java/lang/String") (by decide +kernel) rfl (Or.inl ⟨_, rfl⟩), ?_⟩
  exact fun _ h => absurd h List.not_mem_nil
def q_k89 : List (Nat × xO) := q_k89_0 ++ q_k89_1
theorem q_s89 (l : Launch) (s0 : State) : ∀ q ∈ q_k89, x_Sim (x_K s0) none l q_y89 q_c89 4 (some (.object "java/lang/String")) q_w89 q.1 q.2 := by
  intro q hq
  simp only [q_k89, List.mem_append] at hq
  rcases hq with h0 | h1
  · exact q_s89_0 l s0 q h0
  · exact q_s89_1 l s0 q h1
/-- ProofDesk.appendTerm(Ljava/lang/StringBuilder;LProofDesk$Form;II)I -/
def q_k90_0 : List (Nat × xO) := [(0, x_ldi 1 3), (1, x_st (x_push 3 (.int (40)))), (3, x_st (x_icge 14 6)), (6, x_ldi 7 2), (7, x_lda 8 1), (8, x_gf 11 4 4), (11, x_st (x_iclt 19 14)), (14, x_lda 15 1), (15, x_gf 18 4 4), (18, x_ri (.int)), (19, x_lda 20 1), (20, x_gf 23 4 0), (23, x_ldi 24 2), (24, x_ald 25 0), (25, x_sti 27 4), (27, x_ldi 29 4), (29, x_cl_ 32 5 1), (32, x_sti 34 5), (34, x_ldi 35 2), (35, x_st (x_push 36 (.int (1)))), (36, x_st (x_bin 37 (fun a b => a + b))), (37, x_sti 39 6), (39, x_lda 40 0), (40, x_ldi 42 4), (42, x_cl_ 45 6 1), (45, x_cv 48 159 2 14), (48, x_st (x_pop 49)), (49, x_st (x_push 50 (.int (0)))), (50, x_sti 52 7), (52, x_ldi 54 7), (54, x_ldi 56 5), (56, x_st (x_icge 94 59)), (59, x_lda 60 0), (60, x_ldi 62 7), (62, x_st (x_ifne 70 65)), (65, x_st (x_push 67 (.int (40)))), (67, x_st (x_goto 72)), (70, x_st (x_push 72 (.int (44)))), (72, x_cv 75 159 2 14), (75, x_st (x_pop 76))]
set_option maxRecDepth 100000 in
set_option maxHeartbeats 4000000 in
theorem q_s90_0 (l : Launch) (s0 : State) : ∀ q ∈ q_k90_0, x_Sim (x_K s0) none l q_y90 q_c90 8 (some .int) q_w90 q.1 q.2 := by
  unfold q_k90_0
  refine List.forall_mem_cons.2 ⟨s_iload_n (k := 3) (by decide +kernel) rfl, ?_⟩
  refine List.forall_mem_cons.2 ⟨s_bipush (k := 40) (by decide +kernel) (by decide +kernel), ?_⟩
  refine List.forall_mem_cons.2 ⟨s_icmp_ge (off := 11) (by decide +kernel) (by decide), ?_⟩
  refine List.forall_mem_cons.2 ⟨s_iload_n (k := 2) (by decide +kernel) rfl, ?_⟩
  refine List.forall_mem_cons.2 ⟨s_aload_n (k := 1) (by decide +kernel) rfl, ?_⟩
  refine List.forall_mem_cons.2 ⟨s_getfield (C := q_n4) (T := q_T4) (N := 6) (idx := 107) (ref := "ProofDesk$Form") (by decide +kernel) rfl q_in4 (by decide) (x_up mw_540) rfl, ?_⟩
  refine List.forall_mem_cons.2 ⟨s_icmp_lt (off := 8) (by decide +kernel) (by decide), ?_⟩
  refine List.forall_mem_cons.2 ⟨s_aload_n (k := 1) (by decide +kernel) rfl, ?_⟩
  refine List.forall_mem_cons.2 ⟨s_getfield (C := q_n4) (T := q_T4) (N := 6) (idx := 107) (ref := "ProofDesk$Form") (by decide +kernel) rfl q_in4 (by decide) (x_up mw_540) rfl, ?_⟩
  refine List.forall_mem_cons.2 ⟨s_ireturn (ty := .int) (by decide +kernel) rfl, ?_⟩
  refine List.forall_mem_cons.2 ⟨s_aload_n (k := 1) (by decide +kernel) rfl, ?_⟩
  refine List.forall_mem_cons.2 ⟨s_getfield (C := q_n4) (T := q_T4) (N := 6) (idx := 230) (ref := "ProofDesk$Form") (by decide +kernel) rfl q_in4 (by decide) (x_up mw_637) rfl, ?_⟩
  refine List.forall_mem_cons.2 ⟨s_iload_n (k := 2) (by decide +kernel) rfl, ?_⟩
  refine List.forall_mem_cons.2 ⟨s_iald (by decide +kernel) rfl, ?_⟩
  refine List.forall_mem_cons.2 ⟨s_istore (by decide +kernel) (by decide), ?_⟩
  refine List.forall_mem_cons.2 ⟨s_iload (by decide +kernel), ?_⟩
  refine List.forall_mem_cons.2 ⟨s_invokestatic (idx := 234) (M := 5) (ym := q_y5) (wm := q_w5) (by decide +kernel) rfl rfl (x_gdS mw_638 mw_216 mw_175 mw_214) rfl (by decide +kernel) (by decide), ?_⟩
  refine List.forall_mem_cons.2 ⟨s_istore (by decide +kernel) (by decide), ?_⟩
  refine List.forall_mem_cons.2 ⟨s_iload_n (k := 2) (by decide +kernel) rfl, ?_⟩
  refine List.forall_mem_cons.2 ⟨s_iconst (k := 1) (by decide +kernel) (by decide +kernel), ?_⟩
  refine List.forall_mem_cons.2 ⟨s_iadd (by decide +kernel), ?_⟩
  refine List.forall_mem_cons.2 ⟨s_istore (by decide +kernel) (by decide), ?_⟩
  refine List.forall_mem_cons.2 ⟨s_aload_n (k := 0) (by decide +kernel) rfl, ?_⟩
  refine List.forall_mem_cons.2 ⟨s_iload (by decide +kernel), ?_⟩
  refine List.forall_mem_cons.2 ⟨s_invokestatic (idx := 239) (M := 6) (ym := q_y6) (wm := q_w6) (by decide +kernel) rfl rfl (x_gdS mw_640 mw_641 mw_175 mw_639) rfl (by decide +kernel) (by decide), ?_⟩
  refine List.forall_mem_cons.2 ⟨s_invokevirtual (idx := 209) (M := 159) (k := 1) (ci := 14) (C := q_n14) (T := q_T14) (N := 4) (ym := q_y159) (wm := q_w159) (by decide +kernel) rfl rfl rfl (x_gdV mw_624 mw_625 mw_626 mw_619 mw_623) rfl (by decide +kernel) (by decide), ?_⟩
  refine List.forall_mem_cons.2 ⟨s_pop (by decide +kernel), ?_⟩
  refine List.forall_mem_cons.2 ⟨s_iconst (k := 0) (by decide +kernel) (by decide +kernel), ?_⟩
  refine List.forall_mem_cons.2 ⟨s_istore (by decide +kernel) (by decide), ?_⟩
  refine List.forall_mem_cons.2 ⟨s_iload (by decide +kernel), ?_⟩
  refine List.forall_mem_cons.2 ⟨s_iload (by decide +kernel), ?_⟩
  refine List.forall_mem_cons.2 ⟨s_icmp_ge (off := 38) (by decide +kernel) (by decide), ?_⟩
  refine List.forall_mem_cons.2 ⟨s_aload_n (k := 0) (by decide +kernel) rfl, ?_⟩
  refine List.forall_mem_cons.2 ⟨s_iload (by decide +kernel), ?_⟩
  refine List.forall_mem_cons.2 ⟨s_ifne (off := 8) (by decide +kernel) (by decide), ?_⟩
  refine List.forall_mem_cons.2 ⟨s_bipush (k := 40) (by decide +kernel) (by decide +kernel), ?_⟩
  refine List.forall_mem_cons.2 ⟨s_goto (off := 5) (by decide +kernel) (by decide), ?_⟩
  refine List.forall_mem_cons.2 ⟨s_bipush (k := 44) (by decide +kernel) (by decide +kernel), ?_⟩
  refine List.forall_mem_cons.2 ⟨s_invokevirtual (idx := 209) (M := 159) (k := 1) (ci := 14) (C := q_n14) (T := q_T14) (N := 4) (ym := q_y159) (wm := q_w159) (by decide +kernel) rfl rfl rfl (x_gdV mw_624 mw_625 mw_626 mw_619 mw_623) rfl (by decide +kernel) (by decide), ?_⟩
  refine List.forall_mem_cons.2 ⟨s_pop (by decide +kernel), ?_⟩
  exact fun _ h => absurd h List.not_mem_nil
def q_k90_1 : List (Nat × xO) := [(76, x_lda 77 0), (77, x_lda 78 1), (78, x_ldi 80 6), (80, x_ldi 81 3), (81, x_st (x_push 82 (.int (1)))), (82, x_st (x_bin 83 (fun a b => a + b))), (83, x_cl_ 86 90 4), (86, x_sti 88 6), (88, x_iinc 91 7 (1)), (91, x_st (x_goto 52)), (94, x_ldi 96 5), (96, x_st (x_ifle 106 99)), (99, x_lda 100 0), (100, x_st (x_push 102 (.int (41)))), (102, x_cv 105 159 2 14), (105, x_st (x_pop 106)), (106, x_ldi 108 6), (108, x_ri (.int))]
set_option maxRecDepth 100000 in
set_option maxHeartbeats 4000000 in
theorem q_s90_1 (l : Launch) (s0 : State) : ∀ q ∈ q_k90_1, x_Sim (x_K s0) none l q_y90 q_c90 8 (some .int) q_w90 q.1 q.2 := by
  unfold q_k90_1
  refine List.forall_mem_cons.2 ⟨s_aload_n (k := 0) (by decide +kernel) rfl, ?_⟩
  refine List.forall_mem_cons.2 ⟨s_aload_n (k := 1) (by decide +kernel) rfl, ?_⟩
  refine List.forall_mem_cons.2 ⟨s_iload (by decide +kernel), ?_⟩
  refine List.forall_mem_cons.2 ⟨s_iload_n (k := 3) (by decide +kernel) rfl, ?_⟩
  refine List.forall_mem_cons.2 ⟨s_iconst (k := 1) (by decide +kernel) (by decide +kernel), ?_⟩
  refine List.forall_mem_cons.2 ⟨s_iadd (by decide +kernel), ?_⟩
  refine List.forall_mem_cons.2 ⟨s_invokestatic (idx := 222) (M := 90) (ym := q_y90) (wm := q_w90) (by decide +kernel) rfl rfl (x_gdS mw_631 mw_632 mw_408 mw_630) rfl (by decide +kernel) (by decide), ?_⟩
  refine List.forall_mem_cons.2 ⟨s_istore (by decide +kernel) (by decide), ?_⟩
  refine List.forall_mem_cons.2 ⟨s_iinc (k := 1) (by decide +kernel) (by decide +kernel) (by decide), ?_⟩
  refine List.forall_mem_cons.2 ⟨s_goto (off := -39) (by decide +kernel) (by decide), ?_⟩
  refine List.forall_mem_cons.2 ⟨s_iload (by decide +kernel), ?_⟩
  refine List.forall_mem_cons.2 ⟨s_ifle (off := 10) (by decide +kernel) (by decide), ?_⟩
  refine List.forall_mem_cons.2 ⟨s_aload_n (k := 0) (by decide +kernel) rfl, ?_⟩
  refine List.forall_mem_cons.2 ⟨s_bipush (k := 41) (by decide +kernel) (by decide +kernel), ?_⟩
  refine List.forall_mem_cons.2 ⟨s_invokevirtual (idx := 209) (M := 159) (k := 1) (ci := 14) (C := q_n14) (T := q_T14) (N := 4) (ym := q_y159) (wm := q_w159) (by decide +kernel) rfl rfl rfl (x_gdV mw_624 mw_625 mw_626 mw_619 mw_623) rfl (by decide +kernel) (by decide), ?_⟩
  refine List.forall_mem_cons.2 ⟨s_pop (by decide +kernel), ?_⟩
  refine List.forall_mem_cons.2 ⟨s_iload (by decide +kernel), ?_⟩
  refine List.forall_mem_cons.2 ⟨s_ireturn (ty := .int) (by decide +kernel) rfl, ?_⟩
  exact fun _ h => absurd h List.not_mem_nil
def q_k90 : List (Nat × xO) := q_k90_0 ++ q_k90_1
theorem q_s90 (l : Launch) (s0 : State) : ∀ q ∈ q_k90, x_Sim (x_K s0) none l q_y90 q_c90 8 (some .int) q_w90 q.1 q.2 := by
  intro q hq
  simp only [q_k90, List.mem_append] at hq
  rcases hq with h0 | h1
  · exact q_s90_0 l s0 q h0
  · exact q_s90_1 l s0 q h1
