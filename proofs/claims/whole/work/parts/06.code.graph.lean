/-- ProofDesk$Graph.<init>()V -/
def q_k39_0 : List (Nat × xO) := [(0, x_lda 1 0), (1, x_st (x_oi 4)), (4, x_lda 5 0), (5, x_st (x_push 7 (.int (80)))), (7, x_na 9 0), (9, x_pf 12 5 0 (.array .int)), (12, x_lda 13 0), (13, x_st (x_push 15 (.int (80)))), (15, x_na 17 0), (17, x_pf 20 5 1 (.array .int)), (20, x_lda 21 0), (21, x_st (x_push 23 (.int (80)))), (23, x_na 25 0), (25, x_pf 28 5 2 (.array .int)), (28, x_lda 29 0), (29, x_st (x_push 31 (.int (52)))), (31, x_na 33 0), (33, x_pf 36 5 3 (.array .int)), (36, x_lda 37 0), (37, x_st (x_push 39 (.int (80)))), (39, x_na 41 1), (41, x_pf 44 5 4 (.array .boolean)), (44, x_lda 45 0), (45, x_st (x_push 48 (.int (241)))), (48, x_na 50 0), (50, x_pf 53 5 5 (.array .int)), (53, x_lda 54 0), (54, x_st (x_push 57 (.int (241)))), (57, x_na 59 0), (59, x_pf 62 5 6 (.array .int)), (62, x_rv)]
set_option maxRecDepth 100000 in
set_option maxHeartbeats 4000000 in
theorem q_s39_0 (l : Launch) (s0 : State) : ∀ q ∈ q_k39_0, x_Sim (x_K s0) none l q_y39 q_c39 1 none q_w39 q.1 q.2 := by
  unfold q_k39_0
  refine List.forall_mem_cons.2 ⟨s_aload_n (k := 0) (by decide +kernel) rfl, ?_⟩
  refine List.forall_mem_cons.2 ⟨s_objInit (idx := 5) (by decide +kernel) (x_up mw_305) (x_up mw_100) (x_up mw_obj), ?_⟩
  refine List.forall_mem_cons.2 ⟨s_aload_n (k := 0) (by decide +kernel) rfl, ?_⟩
  refine List.forall_mem_cons.2 ⟨s_bipush (k := 80) (by decide +kernel) (by decide +kernel), ?_⟩
  refine List.forall_mem_cons.2 ⟨s_newarray (at0 := .int) (ty := .int) (by decide +kernel) rfl (x_up mw_188) rfl (by decide) rfl (fun _ _ h => h), ?_⟩
  refine List.forall_mem_cons.2 ⟨s_putfieldF (C := q_n5) (T := q_T5) (N := 9) (idx := 11) q_t5 (by decide +kernel) rfl q_in5 q_ty5 q_nm5 (by decide) (x_up mw_306) rfl rfl (by decide +kernel) rfl, ?_⟩
  refine List.forall_mem_cons.2 ⟨s_aload_n (k := 0) (by decide +kernel) rfl, ?_⟩
  refine List.forall_mem_cons.2 ⟨s_bipush (k := 80) (by decide +kernel) (by decide +kernel), ?_⟩
  refine List.forall_mem_cons.2 ⟨s_newarray (at0 := .int) (ty := .int) (by decide +kernel) rfl (x_up mw_188) rfl (by decide) rfl (fun _ _ h => h), ?_⟩
  refine List.forall_mem_cons.2 ⟨s_putfieldF (C := q_n5) (T := q_T5) (N := 9) (idx := 15) q_t5 (by decide +kernel) rfl q_in5 q_ty5 q_nm5 (by decide) (x_up mw_307) rfl rfl (by decide +kernel) rfl, ?_⟩
  refine List.forall_mem_cons.2 ⟨s_aload_n (k := 0) (by decide +kernel) rfl, ?_⟩
  refine List.forall_mem_cons.2 ⟨s_bipush (k := 80) (by decide +kernel) (by decide +kernel), ?_⟩
  refine List.forall_mem_cons.2 ⟨s_newarray (at0 := .int) (ty := .int) (by decide +kernel) rfl (x_up mw_188) rfl (by decide) rfl (fun _ _ h => h), ?_⟩
  refine List.forall_mem_cons.2 ⟨s_putfieldF (C := q_n5) (T := q_T5) (N := 9) (idx := 18) q_t5 (by decide +kernel) rfl q_in5 q_ty5 q_nm5 (by decide) (x_up mw_308) rfl rfl (by decide +kernel) rfl, ?_⟩
  refine List.forall_mem_cons.2 ⟨s_aload_n (k := 0) (by decide +kernel) rfl, ?_⟩
  refine List.forall_mem_cons.2 ⟨s_bipush (k := 52) (by decide +kernel) (by decide +kernel), ?_⟩
  refine List.forall_mem_cons.2 ⟨s_newarray (at0 := .int) (ty := .int) (by decide +kernel) rfl (x_up mw_188) rfl (by decide) rfl (fun _ _ h => h), ?_⟩
  refine List.forall_mem_cons.2 ⟨s_putfieldF (C := q_n5) (T := q_T5) (N := 9) (idx := 21) q_t5 (by decide +kernel) rfl q_in5 q_ty5 q_nm5 (by decide) (x_up mw_309) rfl rfl (by decide +kernel) rfl, ?_⟩
  refine List.forall_mem_cons.2 ⟨s_aload_n (k := 0) (by decide +kernel) rfl, ?_⟩
  refine List.forall_mem_cons.2 ⟨s_bipush (k := 80) (by decide +kernel) (by decide +kernel), ?_⟩
  refine List.forall_mem_cons.2 ⟨s_newarray (at0 := .boolean) (ty := .boolean) (by decide +kernel) rfl (x_up mw_191) rfl (by decide) rfl (fun _ _ h => h), ?_⟩
  refine List.forall_mem_cons.2 ⟨s_putfieldF (C := q_n5) (T := q_T5) (N := 9) (idx := 24) q_t5 (by decide +kernel) rfl q_in5 q_ty5 q_nm5 (by decide) (x_up mw_310) rfl rfl (by decide +kernel) rfl, ?_⟩
  refine List.forall_mem_cons.2 ⟨s_aload_n (k := 0) (by decide +kernel) rfl, ?_⟩
  refine List.forall_mem_cons.2 ⟨s_sipush (k := 241) (by decide +kernel) (by decide +kernel), ?_⟩
  refine List.forall_mem_cons.2 ⟨s_newarray (at0 := .int) (ty := .int) (by decide +kernel) rfl (x_up mw_188) rfl (by decide) rfl (fun _ _ h => h), ?_⟩
  refine List.forall_mem_cons.2 ⟨s_putfieldF (C := q_n5) (T := q_T5) (N := 9) (idx := 28) q_t5 (by decide +kernel) rfl q_in5 q_ty5 q_nm5 (by decide) (x_up mw_311) rfl rfl (by decide +kernel) rfl, ?_⟩
  refine List.forall_mem_cons.2 ⟨s_aload_n (k := 0) (by decide +kernel) rfl, ?_⟩
  refine List.forall_mem_cons.2 ⟨s_sipush (k := 241) (by decide +kernel) (by decide +kernel), ?_⟩
  refine List.forall_mem_cons.2 ⟨s_newarray (at0 := .int) (ty := .int) (by decide +kernel) rfl (x_up mw_188) rfl (by decide) rfl (fun _ _ h => h), ?_⟩
  refine List.forall_mem_cons.2 ⟨s_putfieldF (C := q_n5) (T := q_T5) (N := 9) (idx := 31) q_t5 (by decide +kernel) rfl q_in5 q_ty5 q_nm5 (by decide) (x_up mw_312) rfl rfl (by decide +kernel) rfl, ?_⟩
  refine List.forall_mem_cons.2 ⟨s_return (by decide +kernel) rfl, ?_⟩
  exact fun _ h => absurd h List.not_mem_nil
def q_k39 : List (Nat × xO) := q_k39_0
theorem q_s39 (l : Launch) (s0 : State) : ∀ q ∈ q_k39, x_Sim (x_K s0) none l q_y39 q_c39 1 none q_w39 q.1 q.2 := q_s39_0 l s0
/-- ProofDesk$Graph.load(LProofDesk$Form;)V -/
def q_k40_0 : List (Nat × xO) := [(0, x_lda 1 0), (1, x_st (x_push 2 (.int (0)))), (2, x_pf 5 5 7 (.int)), (5, x_lda 6 0), (6, x_gf 9 5 3), (9, x_st (x_push 10 (.int (-1)))), (10, x_cl_ 13 148 2), (13, x_lda 14 0), (14, x_lda 15 1), (15, x_st (x_push 16 (.int (0)))), (16, x_cv 19 41 3 5), (19, x_rv)]
set_option maxRecDepth 100000 in
set_option maxHeartbeats 4000000 in
theorem q_s40_0 (l : Launch) (s0 : State) : ∀ q ∈ q_k40_0, x_Sim (x_K s0) none l q_y40 q_c40 2 none q_w40 q.1 q.2 := by
  unfold q_k40_0
  refine List.forall_mem_cons.2 ⟨s_aload_n (k := 0) (by decide +kernel) rfl, ?_⟩
  refine List.forall_mem_cons.2 ⟨s_iconst (k := 0) (by decide +kernel) (by decide +kernel), ?_⟩
  refine List.forall_mem_cons.2 ⟨s_putfield (C := q_n5) (T := q_T5) (N := 9) (idx := 34) (ref := "ProofDesk$Graph") q_t5 (by decide +kernel) rfl q_in5 q_ty5 q_nm5 (by decide) (x_up mw_313) rfl rfl (by decide +kernel), ?_⟩
  refine List.forall_mem_cons.2 ⟨s_aload_n (k := 0) (by decide +kernel) rfl, ?_⟩
  refine List.forall_mem_cons.2 ⟨s_getfield (C := q_n5) (T := q_T5) (N := 9) (idx := 21) (ref := "ProofDesk$Graph") (by decide +kernel) rfl q_in5 (by decide) (x_up mw_309) rfl, ?_⟩
  refine List.forall_mem_cons.2 ⟨s_iconst (k := -1) (by decide +kernel) (by decide +kernel), ?_⟩
  refine List.forall_mem_cons.2 ⟨s_invokestatic (idx := 38) (M := 148) (ym := q_y148) (wm := q_w148) (by decide +kernel) rfl rfl (x_gdS mw_315 mw_316 mw_197 mw_314) rfl (by decide +kernel) (by decide), ?_⟩
  refine List.forall_mem_cons.2 ⟨s_aload_n (k := 0) (by decide +kernel) rfl, ?_⟩
  refine List.forall_mem_cons.2 ⟨s_aload_n (k := 1) (by decide +kernel) rfl, ?_⟩
  refine List.forall_mem_cons.2 ⟨s_iconst (k := 0) (by decide +kernel) (by decide +kernel), ?_⟩
  refine List.forall_mem_cons.2 ⟨s_invokevirtual (idx := 44) (M := 41) (k := 2) (ci := 5) (C := q_n5) (T := q_T5) (N := 9) (ym := q_y41) (wm := q_w41) (by decide +kernel) rfl rfl rfl (x_gdV mw_318 mw_319 mw_320 mw_321 mw_317) rfl (by decide +kernel) (by decide), ?_⟩
  refine List.forall_mem_cons.2 ⟨s_return (by decide +kernel) rfl, ?_⟩
  exact fun _ h => absurd h List.not_mem_nil
def q_k40 : List (Nat × xO) := q_k40_0
theorem q_s40 (l : Launch) (s0 : State) : ∀ q ∈ q_k40, x_Sim (x_K s0) none l q_y40 q_c40 2 none q_w40 q.1 q.2 := q_s40_0 l s0
/-- ProofDesk$Graph.append(LProofDesk$Form;I)V -/
def q_k41_0 : List (Nat × xO) := [(0, x_st (x_push 1 (.int (0)))), (1, x_sti 2 3), (2, x_ldi 3 3), (3, x_lda 4 1), (4, x_gf 7 4 4), (7, x_st (x_icge 131 10)), (10, x_lda 11 0), (11, x_gf 14 5 7), (14, x_st (x_push 16 (.int (80)))), (16, x_st (x_icge 131 19)), (19, x_lda 20 1), (20, x_gf 23 4 0), (23, x_ldi 24 3), (24, x_ald 25 0), (25, x_sti 27 4), (27, x_lda 28 0), (28, x_gf 31 5 2), (31, x_lda 32 0), (32, x_gf 35 5 7), (35, x_lda 36 0), (36, x_gf 39 5 7), (39, x_ast 40 0 (fun x => x)), (40, x_ldi 42 4), (42, x_cl_ 45 2 1), (45, x_st (x_ifeq 104 48)), (48, x_ldi 50 4), (50, x_cl_ 53 3 1), (53, x_ldi 54 2), (54, x_st (x_bin 55 (fun a b => a + b))), (55, x_lda 56 0), (56, x_gf 59 5 3), (59, x_aln 60 6), (60, x_st (x_push 61 (.int (1)))), (61, x_st (x_bin 62 (fun a b => a - b))), (62, x_st (x_mm 65 (fun a b => if b < a then b else a))), (65, x_sti 67 5), (67, x_lda 68 0), (68, x_gf 71 5 3), (71, x_ldi 73 5), (73, x_ald 74 0)]
set_option maxRecDepth 100000 in
set_option maxHeartbeats 4000000 in
theorem q_s41_0 (l : Launch) (s0 : State) : ∀ q ∈ q_k41_0, x_Sim (x_K s0) none l q_y41 q_c41 6 none q_w41 q.1 q.2 := by
  unfold q_k41_0
  refine List.forall_mem_cons.2 ⟨s_iconst (k := 0) (by decide +kernel) (by decide +kernel), ?_⟩
  refine List.forall_mem_cons.2 ⟨s_istore_n (k := 3) (by decide +kernel) rfl (by decide), ?_⟩
  refine List.forall_mem_cons.2 ⟨s_iload_n (k := 3) (by decide +kernel) rfl, ?_⟩
  refine List.forall_mem_cons.2 ⟨s_aload_n (k := 1) (by decide +kernel) rfl, ?_⟩
  refine List.forall_mem_cons.2 ⟨s_getfield (C := q_n4) (T := q_T4) (N := 6) (idx := 48) (ref := "ProofDesk$Form") (by decide +kernel) rfl q_in4 (by decide) (x_up mw_322) rfl, ?_⟩
  refine List.forall_mem_cons.2 ⟨s_icmp_ge (off := 124) (by decide +kernel) (by decide), ?_⟩
  refine List.forall_mem_cons.2 ⟨s_aload_n (k := 0) (by decide +kernel) rfl, ?_⟩
  refine List.forall_mem_cons.2 ⟨s_getfield (C := q_n5) (T := q_T5) (N := 9) (idx := 34) (ref := "ProofDesk$Graph") (by decide +kernel) rfl q_in5 (by decide) (x_up mw_313) rfl, ?_⟩
  refine List.forall_mem_cons.2 ⟨s_bipush (k := 80) (by decide +kernel) (by decide +kernel), ?_⟩
  refine List.forall_mem_cons.2 ⟨s_icmp_ge (off := 115) (by decide +kernel) (by decide), ?_⟩
  refine List.forall_mem_cons.2 ⟨s_aload_n (k := 1) (by decide +kernel) rfl, ?_⟩
  refine List.forall_mem_cons.2 ⟨s_getfield (C := q_n4) (T := q_T4) (N := 6) (idx := 51) (ref := "ProofDesk$Form") (by decide +kernel) rfl q_in4 (by decide) (x_up mw_323) rfl, ?_⟩
  refine List.forall_mem_cons.2 ⟨s_iload_n (k := 3) (by decide +kernel) rfl, ?_⟩
  refine List.forall_mem_cons.2 ⟨s_iald (by decide +kernel) rfl, ?_⟩
  refine List.forall_mem_cons.2 ⟨s_istore (by decide +kernel) (by decide), ?_⟩
  refine List.forall_mem_cons.2 ⟨s_aload_n (k := 0) (by decide +kernel) rfl, ?_⟩
  refine List.forall_mem_cons.2 ⟨s_getfield (C := q_n5) (T := q_T5) (N := 9) (idx := 18) (ref := "ProofDesk$Graph") (by decide +kernel) rfl q_in5 (by decide) (x_up mw_308) rfl, ?_⟩
  refine List.forall_mem_cons.2 ⟨s_aload_n (k := 0) (by decide +kernel) rfl, ?_⟩
  refine List.forall_mem_cons.2 ⟨s_getfield (C := q_n5) (T := q_T5) (N := 9) (idx := 34) (ref := "ProofDesk$Graph") (by decide +kernel) rfl q_in5 (by decide) (x_up mw_313) rfl, ?_⟩
  refine List.forall_mem_cons.2 ⟨s_aload_n (k := 0) (by decide +kernel) rfl, ?_⟩
  refine List.forall_mem_cons.2 ⟨s_getfield (C := q_n5) (T := q_T5) (N := 9) (idx := 34) (ref := "ProofDesk$Graph") (by decide +kernel) rfl q_in5 (by decide) (x_up mw_313) rfl, ?_⟩
  refine List.forall_mem_cons.2 ⟨s_iast (by decide +kernel) rfl, ?_⟩
  refine List.forall_mem_cons.2 ⟨s_iload (by decide +kernel), ?_⟩
  refine List.forall_mem_cons.2 ⟨s_invokestatic (idx := 52) (M := 2) (ym := q_y2) (wm := q_w2) (by decide +kernel) rfl rfl (x_gdS mw_324 mw_174 mw_175 mw_172) rfl (by decide +kernel) (by decide), ?_⟩
  refine List.forall_mem_cons.2 ⟨s_ifeq (off := 59) (by decide +kernel) (by decide), ?_⟩
  refine List.forall_mem_cons.2 ⟨s_iload (by decide +kernel), ?_⟩
  refine List.forall_mem_cons.2 ⟨s_invokestatic (idx := 58) (M := 3) (ym := q_y3) (wm := q_w3) (by decide +kernel) rfl rfl (x_gdS mw_325 mw_178 mw_175 mw_176) rfl (by decide +kernel) (by decide), ?_⟩
  refine List.forall_mem_cons.2 ⟨s_iload_n (k := 2) (by decide +kernel) rfl, ?_⟩
  refine List.forall_mem_cons.2 ⟨s_iadd (by decide +kernel), ?_⟩
  refine List.forall_mem_cons.2 ⟨s_aload_n (k := 0) (by decide +kernel) rfl, ?_⟩
  refine List.forall_mem_cons.2 ⟨s_getfield (C := q_n5) (T := q_T5) (N := 9) (idx := 21) (ref := "ProofDesk$Graph") (by decide +kernel) rfl q_in5 (by decide) (x_up mw_309) rfl, ?_⟩
  refine List.forall_mem_cons.2 ⟨s_alen (by decide +kernel) 6 rfl, ?_⟩
  refine List.forall_mem_cons.2 ⟨s_iconst (k := 1) (by decide +kernel) (by decide +kernel), ?_⟩
  refine List.forall_mem_cons.2 ⟨s_isub (by decide +kernel), ?_⟩
  refine List.forall_mem_cons.2 ⟨s_mmin (idx := 62) (by decide +kernel) (x_up mw_326) (x_up mw_327) (x_up mw_328) (x_up mw_329), ?_⟩
  refine List.forall_mem_cons.2 ⟨s_istore (by decide +kernel) (by decide), ?_⟩
  refine List.forall_mem_cons.2 ⟨s_aload_n (k := 0) (by decide +kernel) rfl, ?_⟩
  refine List.forall_mem_cons.2 ⟨s_getfield (C := q_n5) (T := q_T5) (N := 9) (idx := 21) (ref := "ProofDesk$Graph") (by decide +kernel) rfl q_in5 (by decide) (x_up mw_309) rfl, ?_⟩
  refine List.forall_mem_cons.2 ⟨s_iload (by decide +kernel), ?_⟩
  refine List.forall_mem_cons.2 ⟨s_iald (by decide +kernel) rfl, ?_⟩
  exact fun _ h => absurd h List.not_mem_nil
def q_k41_1 : List (Nat × xO) := [(74, x_st (x_ifge 88 77)), (77, x_lda 78 0), (78, x_gf 81 5 3), (81, x_ldi 83 5), (83, x_lda 84 0), (84, x_gf 87 5 7), (87, x_ast 88 0 (fun x => x)), (88, x_lda 89 0), (89, x_gf 92 5 2), (92, x_lda 93 0), (93, x_gf 96 5 7), (96, x_lda 97 0), (97, x_gf 100 5 3), (100, x_ldi 102 5), (102, x_ald 103 0), (103, x_ast 104 0 (fun x => x)), (104, x_lda 105 0), (105, x_gf 108 5 0), (108, x_lda 109 0), (109, x_gf 112 5 7), (112, x_ldi 114 4), (114, x_ast 115 0 (fun x => x)), (115, x_lda 116 0), (116, x_st (x_dup 117)), (117, x_gf 120 5 7), (120, x_st (x_push 121 (.int (1)))), (121, x_st (x_bin 122 (fun a b => a + b))), (122, x_pf 125 5 7 (.int)), (125, x_iinc 128 3 (1)), (128, x_st (x_goto 2)), (131, x_rv)]
set_option maxRecDepth 100000 in
set_option maxHeartbeats 4000000 in
theorem q_s41_1 (l : Launch) (s0 : State) : ∀ q ∈ q_k41_1, x_Sim (x_K s0) none l q_y41 q_c41 6 none q_w41 q.1 q.2 := by
  unfold q_k41_1
  refine List.forall_mem_cons.2 ⟨s_ifge (off := 14) (by decide +kernel) (by decide), ?_⟩
  refine List.forall_mem_cons.2 ⟨s_aload_n (k := 0) (by decide +kernel) rfl, ?_⟩
  refine List.forall_mem_cons.2 ⟨s_getfield (C := q_n5) (T := q_T5) (N := 9) (idx := 21) (ref := "ProofDesk$Graph") (by decide +kernel) rfl q_in5 (by decide) (x_up mw_309) rfl, ?_⟩
  refine List.forall_mem_cons.2 ⟨s_iload (by decide +kernel), ?_⟩
  refine List.forall_mem_cons.2 ⟨s_aload_n (k := 0) (by decide +kernel) rfl, ?_⟩
  refine List.forall_mem_cons.2 ⟨s_getfield (C := q_n5) (T := q_T5) (N := 9) (idx := 34) (ref := "ProofDesk$Graph") (by decide +kernel) rfl q_in5 (by decide) (x_up mw_313) rfl, ?_⟩
  refine List.forall_mem_cons.2 ⟨s_iast (by decide +kernel) rfl, ?_⟩
  refine List.forall_mem_cons.2 ⟨s_aload_n (k := 0) (by decide +kernel) rfl, ?_⟩
  refine List.forall_mem_cons.2 ⟨s_getfield (C := q_n5) (T := q_T5) (N := 9) (idx := 18) (ref := "ProofDesk$Graph") (by decide +kernel) rfl q_in5 (by decide) (x_up mw_308) rfl, ?_⟩
  refine List.forall_mem_cons.2 ⟨s_aload_n (k := 0) (by decide +kernel) rfl, ?_⟩
  refine List.forall_mem_cons.2 ⟨s_getfield (C := q_n5) (T := q_T5) (N := 9) (idx := 34) (ref := "ProofDesk$Graph") (by decide +kernel) rfl q_in5 (by decide) (x_up mw_313) rfl, ?_⟩
  refine List.forall_mem_cons.2 ⟨s_aload_n (k := 0) (by decide +kernel) rfl, ?_⟩
  refine List.forall_mem_cons.2 ⟨s_getfield (C := q_n5) (T := q_T5) (N := 9) (idx := 21) (ref := "ProofDesk$Graph") (by decide +kernel) rfl q_in5 (by decide) (x_up mw_309) rfl, ?_⟩
  refine List.forall_mem_cons.2 ⟨s_iload (by decide +kernel), ?_⟩
  refine List.forall_mem_cons.2 ⟨s_iald (by decide +kernel) rfl, ?_⟩
  refine List.forall_mem_cons.2 ⟨s_iast (by decide +kernel) rfl, ?_⟩
  refine List.forall_mem_cons.2 ⟨s_aload_n (k := 0) (by decide +kernel) rfl, ?_⟩
  refine List.forall_mem_cons.2 ⟨s_getfield (C := q_n5) (T := q_T5) (N := 9) (idx := 11) (ref := "ProofDesk$Graph") (by decide +kernel) rfl q_in5 (by decide) (x_up mw_306) rfl, ?_⟩
  refine List.forall_mem_cons.2 ⟨s_aload_n (k := 0) (by decide +kernel) rfl, ?_⟩
  refine List.forall_mem_cons.2 ⟨s_getfield (C := q_n5) (T := q_T5) (N := 9) (idx := 34) (ref := "ProofDesk$Graph") (by decide +kernel) rfl q_in5 (by decide) (x_up mw_313) rfl, ?_⟩
  refine List.forall_mem_cons.2 ⟨s_iload (by decide +kernel), ?_⟩
  refine List.forall_mem_cons.2 ⟨s_iast (by decide +kernel) rfl, ?_⟩
  refine List.forall_mem_cons.2 ⟨s_aload_n (k := 0) (by decide +kernel) rfl, ?_⟩
  refine List.forall_mem_cons.2 ⟨s_dup (by decide +kernel), ?_⟩
  refine List.forall_mem_cons.2 ⟨s_getfield (C := q_n5) (T := q_T5) (N := 9) (idx := 34) (ref := "ProofDesk$Graph") (by decide +kernel) rfl q_in5 (by decide) (x_up mw_313) rfl, ?_⟩
  refine List.forall_mem_cons.2 ⟨s_iconst (k := 1) (by decide +kernel) (by decide +kernel), ?_⟩
  refine List.forall_mem_cons.2 ⟨s_iadd (by decide +kernel), ?_⟩
  refine List.forall_mem_cons.2 ⟨s_putfield (C := q_n5) (T := q_T5) (N := 9) (idx := 34) (ref := "ProofDesk$Graph") q_t5 (by decide +kernel) rfl q_in5 q_ty5 q_nm5 (by decide) (x_up mw_313) rfl rfl (by decide +kernel), ?_⟩
  refine List.forall_mem_cons.2 ⟨s_iinc (k := 1) (by decide +kernel) (by decide +kernel) (by decide), ?_⟩
  refine List.forall_mem_cons.2 ⟨s_goto (off := -126) (by decide +kernel) (by decide), ?_⟩
  refine List.forall_mem_cons.2 ⟨s_return (by decide +kernel) rfl, ?_⟩
  exact fun _ h => absurd h List.not_mem_nil
def q_k41 : List (Nat × xO) := q_k41_0 ++ q_k41_1
theorem q_s41 (l : Launch) (s0 : State) : ∀ q ∈ q_k41, x_Sim (x_K s0) none l q_y41 q_c41 6 none q_w41 q.1 q.2 := by
  intro q hq
  simp only [q_k41, List.mem_append] at hq
  rcases hq with h0 | h1
  · exact q_s41_0 l s0 q h0
  · exact q_s41_1 l s0 q h1
/-- ProofDesk$Graph.findEnds()V -/
def q_k42_0 : List (Nat × xO) := [(0, x_lda 1 0), (1, x_gf 4 5 7), (4, x_st (x_push 5 (.int (1)))), (5, x_st (x_bin 6 (fun a b => a - b))), (6, x_sti 7 1), (7, x_ldi 8 1), (8, x_st (x_iflt 68 11)), (11, x_ldi 12 1), (12, x_st (x_push 13 (.int (1)))), (13, x_st (x_bin 14 (fun a b => a + b))), (14, x_sti 15 2), (15, x_lda 16 0), (16, x_gf 19 5 0), (19, x_ldi 20 1), (20, x_ald 21 0), (21, x_cl_ 24 5 1), (24, x_sti 25 3), (25, x_st (x_push 26 (.int (0)))), (26, x_sti 28 4), (28, x_ldi 30 4), (30, x_ldi 31 3), (31, x_st (x_icge 55 34)), (34, x_ldi 35 2), (35, x_lda 36 0), (36, x_gf 39 5 7), (39, x_st (x_icge 55 42)), (42, x_lda 43 0), (43, x_gf 46 5 1), (46, x_ldi 47 2), (47, x_ald 48 0), (48, x_sti 49 2), (49, x_iinc 52 4 (1)), (52, x_st (x_goto 28)), (55, x_lda 56 0), (56, x_gf 59 5 1), (59, x_ldi 60 1), (60, x_ldi 61 2), (61, x_ast 62 0 (fun x => x)), (62, x_iinc 65 1 (-1)), (65, x_st (x_goto 7))]
set_option maxRecDepth 100000 in
set_option maxHeartbeats 4000000 in
theorem q_s42_0 (l : Launch) (s0 : State) : ∀ q ∈ q_k42_0, x_Sim (x_K s0) none l q_y42 q_c42 5 none q_w42 q.1 q.2 := by
  unfold q_k42_0
  refine List.forall_mem_cons.2 ⟨s_aload_n (k := 0) (by decide +kernel) rfl, ?_⟩
  refine List.forall_mem_cons.2 ⟨s_getfield (C := q_n5) (T := q_T5) (N := 9) (idx := 34) (ref := "ProofDesk$Graph") (by decide +kernel) rfl q_in5 (by decide) (x_up mw_313) rfl, ?_⟩
  refine List.forall_mem_cons.2 ⟨s_iconst (k := 1) (by decide +kernel) (by decide +kernel), ?_⟩
  refine List.forall_mem_cons.2 ⟨s_isub (by decide +kernel), ?_⟩
  refine List.forall_mem_cons.2 ⟨s_istore_n (k := 1) (by decide +kernel) rfl (by decide), ?_⟩
  refine List.forall_mem_cons.2 ⟨s_iload_n (k := 1) (by decide +kernel) rfl, ?_⟩
  refine List.forall_mem_cons.2 ⟨s_iflt (off := 60) (by decide +kernel) (by decide), ?_⟩
  refine List.forall_mem_cons.2 ⟨s_iload_n (k := 1) (by decide +kernel) rfl, ?_⟩
  refine List.forall_mem_cons.2 ⟨s_iconst (k := 1) (by decide +kernel) (by decide +kernel), ?_⟩
  refine List.forall_mem_cons.2 ⟨s_iadd (by decide +kernel), ?_⟩
  refine List.forall_mem_cons.2 ⟨s_istore_n (k := 2) (by decide +kernel) rfl (by decide), ?_⟩
  refine List.forall_mem_cons.2 ⟨s_aload_n (k := 0) (by decide +kernel) rfl, ?_⟩
  refine List.forall_mem_cons.2 ⟨s_getfield (C := q_n5) (T := q_T5) (N := 9) (idx := 11) (ref := "ProofDesk$Graph") (by decide +kernel) rfl q_in5 (by decide) (x_up mw_306) rfl, ?_⟩
  refine List.forall_mem_cons.2 ⟨s_iload_n (k := 1) (by decide +kernel) rfl, ?_⟩
  refine List.forall_mem_cons.2 ⟨s_iald (by decide +kernel) rfl, ?_⟩
  refine List.forall_mem_cons.2 ⟨s_invokestatic (idx := 68) (M := 5) (ym := q_y5) (wm := q_w5) (by decide +kernel) rfl rfl (x_gdS mw_330 mw_216 mw_175 mw_214) rfl (by decide +kernel) (by decide), ?_⟩
  refine List.forall_mem_cons.2 ⟨s_istore_n (k := 3) (by decide +kernel) rfl (by decide), ?_⟩
  refine List.forall_mem_cons.2 ⟨s_iconst (k := 0) (by decide +kernel) (by decide +kernel), ?_⟩
  refine List.forall_mem_cons.2 ⟨s_istore (by decide +kernel) (by decide), ?_⟩
  refine List.forall_mem_cons.2 ⟨s_iload (by decide +kernel), ?_⟩
  refine List.forall_mem_cons.2 ⟨s_iload_n (k := 3) (by decide +kernel) rfl, ?_⟩
  refine List.forall_mem_cons.2 ⟨s_icmp_ge (off := 24) (by decide +kernel) (by decide), ?_⟩
  refine List.forall_mem_cons.2 ⟨s_iload_n (k := 2) (by decide +kernel) rfl, ?_⟩
  refine List.forall_mem_cons.2 ⟨s_aload_n (k := 0) (by decide +kernel) rfl, ?_⟩
  refine List.forall_mem_cons.2 ⟨s_getfield (C := q_n5) (T := q_T5) (N := 9) (idx := 34) (ref := "ProofDesk$Graph") (by decide +kernel) rfl q_in5 (by decide) (x_up mw_313) rfl, ?_⟩
  refine List.forall_mem_cons.2 ⟨s_icmp_ge (off := 16) (by decide +kernel) (by decide), ?_⟩
  refine List.forall_mem_cons.2 ⟨s_aload_n (k := 0) (by decide +kernel) rfl, ?_⟩
  refine List.forall_mem_cons.2 ⟨s_getfield (C := q_n5) (T := q_T5) (N := 9) (idx := 15) (ref := "ProofDesk$Graph") (by decide +kernel) rfl q_in5 (by decide) (x_up mw_307) rfl, ?_⟩
  refine List.forall_mem_cons.2 ⟨s_iload_n (k := 2) (by decide +kernel) rfl, ?_⟩
  refine List.forall_mem_cons.2 ⟨s_iald (by decide +kernel) rfl, ?_⟩
  refine List.forall_mem_cons.2 ⟨s_istore_n (k := 2) (by decide +kernel) rfl (by decide), ?_⟩
  refine List.forall_mem_cons.2 ⟨s_iinc (k := 1) (by decide +kernel) (by decide +kernel) (by decide), ?_⟩
  refine List.forall_mem_cons.2 ⟨s_goto (off := -24) (by decide +kernel) (by decide), ?_⟩
  refine List.forall_mem_cons.2 ⟨s_aload_n (k := 0) (by decide +kernel) rfl, ?_⟩
  refine List.forall_mem_cons.2 ⟨s_getfield (C := q_n5) (T := q_T5) (N := 9) (idx := 15) (ref := "ProofDesk$Graph") (by decide +kernel) rfl q_in5 (by decide) (x_up mw_307) rfl, ?_⟩
  refine List.forall_mem_cons.2 ⟨s_iload_n (k := 1) (by decide +kernel) rfl, ?_⟩
  refine List.forall_mem_cons.2 ⟨s_iload_n (k := 2) (by decide +kernel) rfl, ?_⟩
  refine List.forall_mem_cons.2 ⟨s_iast (by decide +kernel) rfl, ?_⟩
  refine List.forall_mem_cons.2 ⟨s_iinc (k := -1) (by decide +kernel) (by decide +kernel) (by decide), ?_⟩
  refine List.forall_mem_cons.2 ⟨s_goto (off := -58) (by decide +kernel) (by decide), ?_⟩
  exact fun _ h => absurd h List.not_mem_nil
def q_k42_1 : List (Nat × xO) := [(68, x_rv)]
set_option maxRecDepth 100000 in
set_option maxHeartbeats 4000000 in
theorem q_s42_1 (l : Launch) (s0 : State) : ∀ q ∈ q_k42_1, x_Sim (x_K s0) none l q_y42 q_c42 5 none q_w42 q.1 q.2 := by
  unfold q_k42_1
  refine List.forall_mem_cons.2 ⟨s_return (by decide +kernel) rfl, ?_⟩
  exact fun _ h => absurd h List.not_mem_nil
def q_k42 : List (Nat × xO) := q_k42_0 ++ q_k42_1
theorem q_s42 (l : Launch) (s0 : State) : ∀ q ∈ q_k42, x_Sim (x_K s0) none l q_y42 q_c42 5 none q_w42 q.1 q.2 := by
  intro q hq
  simp only [q_k42, List.mem_append] at hq
  rcases hq with h0 | h1
  · exact q_s42_0 l s0 q h0
  · exact q_s42_1 l s0 q h1
/-- ProofDesk$Graph.end(I)I -/
def q_k43_0 : List (Nat × xO) := [(0, x_ldi 1 1), (1, x_st (x_iflt 12 4)), (4, x_ldi 5 1), (5, x_lda 6 0), (6, x_gf 9 5 7), (9, x_st (x_iclt 19 12)), (12, x_lda 13 0), (13, x_gf 16 5 7), (16, x_st (x_goto 25)), (19, x_lda 20 0), (20, x_gf 23 5 1), (23, x_ldi 24 1), (24, x_ald 25 0), (25, x_ri (.int))]
set_option maxRecDepth 100000 in
set_option maxHeartbeats 4000000 in
theorem q_s43_0 (l : Launch) (s0 : State) : ∀ q ∈ q_k43_0, x_Sim (x_K s0) none l q_y43 q_c43 2 (some .int) q_w43 q.1 q.2 := by
  unfold q_k43_0
  refine List.forall_mem_cons.2 ⟨s_iload_n (k := 1) (by decide +kernel) rfl, ?_⟩
  refine List.forall_mem_cons.2 ⟨s_iflt (off := 11) (by decide +kernel) (by decide), ?_⟩
  refine List.forall_mem_cons.2 ⟨s_iload_n (k := 1) (by decide +kernel) rfl, ?_⟩
  refine List.forall_mem_cons.2 ⟨s_aload_n (k := 0) (by decide +kernel) rfl, ?_⟩
  refine List.forall_mem_cons.2 ⟨s_getfield (C := q_n5) (T := q_T5) (N := 9) (idx := 34) (ref := "ProofDesk$Graph") (by decide +kernel) rfl q_in5 (by decide) (x_up mw_313) rfl, ?_⟩
  refine List.forall_mem_cons.2 ⟨s_icmp_lt (off := 10) (by decide +kernel) (by decide), ?_⟩
  refine List.forall_mem_cons.2 ⟨s_aload_n (k := 0) (by decide +kernel) rfl, ?_⟩
  refine List.forall_mem_cons.2 ⟨s_getfield (C := q_n5) (T := q_T5) (N := 9) (idx := 34) (ref := "ProofDesk$Graph") (by decide +kernel) rfl q_in5 (by decide) (x_up mw_313) rfl, ?_⟩
  refine List.forall_mem_cons.2 ⟨s_goto (off := 9) (by decide +kernel) (by decide), ?_⟩
  refine List.forall_mem_cons.2 ⟨s_aload_n (k := 0) (by decide +kernel) rfl, ?_⟩
  refine List.forall_mem_cons.2 ⟨s_getfield (C := q_n5) (T := q_T5) (N := 9) (idx := 15) (ref := "ProofDesk$Graph") (by decide +kernel) rfl q_in5 (by decide) (x_up mw_307) rfl, ?_⟩
  refine List.forall_mem_cons.2 ⟨s_iload_n (k := 1) (by decide +kernel) rfl, ?_⟩
  refine List.forall_mem_cons.2 ⟨s_iald (by decide +kernel) rfl, ?_⟩
  refine List.forall_mem_cons.2 ⟨s_ireturn (ty := .int) (by decide +kernel) rfl, ?_⟩
  exact fun _ h => absurd h List.not_mem_nil
def q_k43 : List (Nat × xO) := q_k43_0
theorem q_s43 (l : Launch) (s0 : State) : ∀ q ∈ q_k43, x_Sim (x_K s0) none l q_y43 q_c43 2 (some .int) q_w43 q.1 q.2 := q_s43_0 l s0
/-- ProofDesk$Graph.unify(II)Z -/
def q_k44_0 : List (Nat × xO) := [(0, x_lda 1 0), (1, x_st (x_push 2 (.int (0)))), (2, x_pf 5 5 8 (.int)), (5, x_lda 6 0), (6, x_ldi 7 1), (7, x_ldi 8 2), (8, x_cv 11 45 3 5), (11, x_st (x_push 12 (.int (0)))), (12, x_sti 13 3), (13, x_ldi 14 3), (14, x_st (x_push 17 (.int (241)))), (17, x_st (x_icge 169 20)), (20, x_lda 21 0), (21, x_gf 24 5 8), (24, x_st (x_ifle 169 27)), (27, x_lda 28 0), (28, x_st (x_dup 29)), (29, x_gf 32 5 8), (32, x_st (x_push 33 (.int (1)))), (33, x_st (x_bin 34 (fun a b => a - b))), (34, x_pf 37 5 8 (.int)), (37, x_lda 38 0), (38, x_lda 39 0), (39, x_gf 42 5 5), (42, x_lda 43 0), (43, x_gf 46 5 8), (46, x_ald 47 0), (47, x_cv 50 47 2 5), (50, x_sti 52 4), (52, x_lda 53 0), (53, x_lda 54 0), (54, x_gf 57 5 6), (57, x_lda 58 0), (58, x_gf 61 5 8), (61, x_ald 62 0), (62, x_cv 65 47 2 5), (65, x_sti 67 5), (67, x_ldi 69 4), (69, x_ldi 71 5), (71, x_st (x_icne 77 74))]
set_option maxRecDepth 100000 in
set_option maxHeartbeats 4000000 in
theorem q_s44_0 (l : Launch) (s0 : State) : ∀ q ∈ q_k44_0, x_Sim (x_K s0) none l q_y44 q_c44 6 (some .boolean) q_w44 q.1 q.2 := by
  unfold q_k44_0
  refine List.forall_mem_cons.2 ⟨s_aload_n (k := 0) (by decide +kernel) rfl, ?_⟩
  refine List.forall_mem_cons.2 ⟨s_iconst (k := 0) (by decide +kernel) (by decide +kernel), ?_⟩
  refine List.forall_mem_cons.2 ⟨s_putfield (C := q_n5) (T := q_T5) (N := 9) (idx := 71) (ref := "ProofDesk$Graph") q_t5 (by decide +kernel) rfl q_in5 q_ty5 q_nm5 (by decide) (x_up mw_331) rfl rfl (by decide +kernel), ?_⟩
  refine List.forall_mem_cons.2 ⟨s_aload_n (k := 0) (by decide +kernel) rfl, ?_⟩
  refine List.forall_mem_cons.2 ⟨s_iload_n (k := 1) (by decide +kernel) rfl, ?_⟩
  refine List.forall_mem_cons.2 ⟨s_iload_n (k := 2) (by decide +kernel) rfl, ?_⟩
  refine List.forall_mem_cons.2 ⟨s_invokevirtual (idx := 74) (M := 45) (k := 2) (ci := 5) (C := q_n5) (T := q_T5) (N := 9) (ym := q_y45) (wm := q_w45) (by decide +kernel) rfl rfl rfl (x_gdV mw_333 mw_334 mw_335 mw_321 mw_332) rfl (by decide +kernel) (by decide), ?_⟩
  refine List.forall_mem_cons.2 ⟨s_iconst (k := 0) (by decide +kernel) (by decide +kernel), ?_⟩
  refine List.forall_mem_cons.2 ⟨s_istore_n (k := 3) (by decide +kernel) rfl (by decide), ?_⟩
  refine List.forall_mem_cons.2 ⟨s_iload_n (k := 3) (by decide +kernel) rfl, ?_⟩
  refine List.forall_mem_cons.2 ⟨s_sipush (k := 241) (by decide +kernel) (by decide +kernel), ?_⟩
  refine List.forall_mem_cons.2 ⟨s_icmp_ge (off := 152) (by decide +kernel) (by decide), ?_⟩
  refine List.forall_mem_cons.2 ⟨s_aload_n (k := 0) (by decide +kernel) rfl, ?_⟩
  refine List.forall_mem_cons.2 ⟨s_getfield (C := q_n5) (T := q_T5) (N := 9) (idx := 71) (ref := "ProofDesk$Graph") (by decide +kernel) rfl q_in5 (by decide) (x_up mw_331) rfl, ?_⟩
  refine List.forall_mem_cons.2 ⟨s_ifle (off := 145) (by decide +kernel) (by decide), ?_⟩
  refine List.forall_mem_cons.2 ⟨s_aload_n (k := 0) (by decide +kernel) rfl, ?_⟩
  refine List.forall_mem_cons.2 ⟨s_dup (by decide +kernel), ?_⟩
  refine List.forall_mem_cons.2 ⟨s_getfield (C := q_n5) (T := q_T5) (N := 9) (idx := 71) (ref := "ProofDesk$Graph") (by decide +kernel) rfl q_in5 (by decide) (x_up mw_331) rfl, ?_⟩
  refine List.forall_mem_cons.2 ⟨s_iconst (k := 1) (by decide +kernel) (by decide +kernel), ?_⟩
  refine List.forall_mem_cons.2 ⟨s_isub (by decide +kernel), ?_⟩
  refine List.forall_mem_cons.2 ⟨s_putfield (C := q_n5) (T := q_T5) (N := 9) (idx := 71) (ref := "ProofDesk$Graph") q_t5 (by decide +kernel) rfl q_in5 q_ty5 q_nm5 (by decide) (x_up mw_331) rfl rfl (by decide +kernel), ?_⟩
  refine List.forall_mem_cons.2 ⟨s_aload_n (k := 0) (by decide +kernel) rfl, ?_⟩
  refine List.forall_mem_cons.2 ⟨s_aload_n (k := 0) (by decide +kernel) rfl, ?_⟩
  refine List.forall_mem_cons.2 ⟨s_getfield (C := q_n5) (T := q_T5) (N := 9) (idx := 28) (ref := "ProofDesk$Graph") (by decide +kernel) rfl q_in5 (by decide) (x_up mw_311) rfl, ?_⟩
  refine List.forall_mem_cons.2 ⟨s_aload_n (k := 0) (by decide +kernel) rfl, ?_⟩
  refine List.forall_mem_cons.2 ⟨s_getfield (C := q_n5) (T := q_T5) (N := 9) (idx := 71) (ref := "ProofDesk$Graph") (by decide +kernel) rfl q_in5 (by decide) (x_up mw_331) rfl, ?_⟩
  refine List.forall_mem_cons.2 ⟨s_iald (by decide +kernel) rfl, ?_⟩
  refine List.forall_mem_cons.2 ⟨s_invokevirtual (idx := 78) (M := 47) (k := 1) (ci := 5) (C := q_n5) (T := q_T5) (N := 9) (ym := q_y47) (wm := q_w47) (by decide +kernel) rfl rfl rfl (x_gdV mw_337 mw_338 mw_339 mw_321 mw_336) rfl (by decide +kernel) (by decide), ?_⟩
  refine List.forall_mem_cons.2 ⟨s_istore (by decide +kernel) (by decide), ?_⟩
  refine List.forall_mem_cons.2 ⟨s_aload_n (k := 0) (by decide +kernel) rfl, ?_⟩
  refine List.forall_mem_cons.2 ⟨s_aload_n (k := 0) (by decide +kernel) rfl, ?_⟩
  refine List.forall_mem_cons.2 ⟨s_getfield (C := q_n5) (T := q_T5) (N := 9) (idx := 31) (ref := "ProofDesk$Graph") (by decide +kernel) rfl q_in5 (by decide) (x_up mw_312) rfl, ?_⟩
  refine List.forall_mem_cons.2 ⟨s_aload_n (k := 0) (by decide +kernel) rfl, ?_⟩
  refine List.forall_mem_cons.2 ⟨s_getfield (C := q_n5) (T := q_T5) (N := 9) (idx := 71) (ref := "ProofDesk$Graph") (by decide +kernel) rfl q_in5 (by decide) (x_up mw_331) rfl, ?_⟩
  refine List.forall_mem_cons.2 ⟨s_iald (by decide +kernel) rfl, ?_⟩
  refine List.forall_mem_cons.2 ⟨s_invokevirtual (idx := 78) (M := 47) (k := 1) (ci := 5) (C := q_n5) (T := q_T5) (N := 9) (ym := q_y47) (wm := q_w47) (by decide +kernel) rfl rfl rfl (x_gdV mw_337 mw_338 mw_339 mw_321 mw_336) rfl (by decide +kernel) (by decide), ?_⟩
  refine List.forall_mem_cons.2 ⟨s_istore (by decide +kernel) (by decide), ?_⟩
  refine List.forall_mem_cons.2 ⟨s_iload (by decide +kernel), ?_⟩
  refine List.forall_mem_cons.2 ⟨s_iload (by decide +kernel), ?_⟩
  refine List.forall_mem_cons.2 ⟨s_icmp_ne (off := 6) (by decide +kernel) (by decide), ?_⟩
  exact fun _ h => absurd h List.not_mem_nil
def q_k44_1 : List (Nat × xO) := [(74, x_st (x_goto 163)), (77, x_lda 78 0), (78, x_gf 81 5 0), (81, x_ldi 83 4), (83, x_ald 84 0), (84, x_cl_ 87 2 1), (87, x_st (x_ifeq 102 90)), (90, x_lda 91 0), (91, x_gf 94 5 2), (94, x_ldi 96 4), (96, x_ldi 98 5), (98, x_ast 99 0 (fun x => x)), (99, x_st (x_goto 163)), (102, x_lda 103 0), (103, x_gf 106 5 0), (106, x_ldi 108 5), (108, x_ald 109 0), (109, x_cl_ 112 2 1), (112, x_st (x_ifeq 127 115)), (115, x_lda 116 0), (116, x_gf 119 5 2), (119, x_ldi 121 5), (121, x_ldi 123 4), (123, x_ast 124 0 (fun x => x)), (124, x_st (x_goto 163)), (127, x_lda 128 0), (128, x_gf 131 5 0), (131, x_ldi 133 4), (133, x_ald 134 0), (134, x_lda 135 0), (135, x_gf 138 5 0), (138, x_ldi 140 5), (140, x_ald 141 0), (141, x_st (x_iceq 146 144)), (144, x_st (x_push 145 (.int (0)))), (145, x_ri (.boolean)), (146, x_lda 147 0), (147, x_gf 150 5 2), (150, x_ldi 152 4), (152, x_ldi 154 5)]
set_option maxRecDepth 100000 in
set_option maxHeartbeats 4000000 in
theorem q_s44_1 (l : Launch) (s0 : State) : ∀ q ∈ q_k44_1, x_Sim (x_K s0) none l q_y44 q_c44 6 (some .boolean) q_w44 q.1 q.2 := by
  unfold q_k44_1
  refine List.forall_mem_cons.2 ⟨s_goto (off := 89) (by decide +kernel) (by decide), ?_⟩
  refine List.forall_mem_cons.2 ⟨s_aload_n (k := 0) (by decide +kernel) rfl, ?_⟩
  refine List.forall_mem_cons.2 ⟨s_getfield (C := q_n5) (T := q_T5) (N := 9) (idx := 11) (ref := "ProofDesk$Graph") (by decide +kernel) rfl q_in5 (by decide) (x_up mw_306) rfl, ?_⟩
  refine List.forall_mem_cons.2 ⟨s_iload (by decide +kernel), ?_⟩
  refine List.forall_mem_cons.2 ⟨s_iald (by decide +kernel) rfl, ?_⟩
  refine List.forall_mem_cons.2 ⟨s_invokestatic (idx := 52) (M := 2) (ym := q_y2) (wm := q_w2) (by decide +kernel) rfl rfl (x_gdS mw_324 mw_174 mw_175 mw_172) rfl (by decide +kernel) (by decide), ?_⟩
  refine List.forall_mem_cons.2 ⟨s_ifeq (off := 15) (by decide +kernel) (by decide), ?_⟩
  refine List.forall_mem_cons.2 ⟨s_aload_n (k := 0) (by decide +kernel) rfl, ?_⟩
  refine List.forall_mem_cons.2 ⟨s_getfield (C := q_n5) (T := q_T5) (N := 9) (idx := 18) (ref := "ProofDesk$Graph") (by decide +kernel) rfl q_in5 (by decide) (x_up mw_308) rfl, ?_⟩
  refine List.forall_mem_cons.2 ⟨s_iload (by decide +kernel), ?_⟩
  refine List.forall_mem_cons.2 ⟨s_iload (by decide +kernel), ?_⟩
  refine List.forall_mem_cons.2 ⟨s_iast (by decide +kernel) rfl, ?_⟩
  refine List.forall_mem_cons.2 ⟨s_goto (off := 64) (by decide +kernel) (by decide), ?_⟩
  refine List.forall_mem_cons.2 ⟨s_aload_n (k := 0) (by decide +kernel) rfl, ?_⟩
  refine List.forall_mem_cons.2 ⟨s_getfield (C := q_n5) (T := q_T5) (N := 9) (idx := 11) (ref := "ProofDesk$Graph") (by decide +kernel) rfl q_in5 (by decide) (x_up mw_306) rfl, ?_⟩
  refine List.forall_mem_cons.2 ⟨s_iload (by decide +kernel), ?_⟩
  refine List.forall_mem_cons.2 ⟨s_iald (by decide +kernel) rfl, ?_⟩
  refine List.forall_mem_cons.2 ⟨s_invokestatic (idx := 52) (M := 2) (ym := q_y2) (wm := q_w2) (by decide +kernel) rfl rfl (x_gdS mw_324 mw_174 mw_175 mw_172) rfl (by decide +kernel) (by decide), ?_⟩
  refine List.forall_mem_cons.2 ⟨s_ifeq (off := 15) (by decide +kernel) (by decide), ?_⟩
  refine List.forall_mem_cons.2 ⟨s_aload_n (k := 0) (by decide +kernel) rfl, ?_⟩
  refine List.forall_mem_cons.2 ⟨s_getfield (C := q_n5) (T := q_T5) (N := 9) (idx := 18) (ref := "ProofDesk$Graph") (by decide +kernel) rfl q_in5 (by decide) (x_up mw_308) rfl, ?_⟩
  refine List.forall_mem_cons.2 ⟨s_iload (by decide +kernel), ?_⟩
  refine List.forall_mem_cons.2 ⟨s_iload (by decide +kernel), ?_⟩
  refine List.forall_mem_cons.2 ⟨s_iast (by decide +kernel) rfl, ?_⟩
  refine List.forall_mem_cons.2 ⟨s_goto (off := 39) (by decide +kernel) (by decide), ?_⟩
  refine List.forall_mem_cons.2 ⟨s_aload_n (k := 0) (by decide +kernel) rfl, ?_⟩
  refine List.forall_mem_cons.2 ⟨s_getfield (C := q_n5) (T := q_T5) (N := 9) (idx := 11) (ref := "ProofDesk$Graph") (by decide +kernel) rfl q_in5 (by decide) (x_up mw_306) rfl, ?_⟩
  refine List.forall_mem_cons.2 ⟨s_iload (by decide +kernel), ?_⟩
  refine List.forall_mem_cons.2 ⟨s_iald (by decide +kernel) rfl, ?_⟩
  refine List.forall_mem_cons.2 ⟨s_aload_n (k := 0) (by decide +kernel) rfl, ?_⟩
  refine List.forall_mem_cons.2 ⟨s_getfield (C := q_n5) (T := q_T5) (N := 9) (idx := 11) (ref := "ProofDesk$Graph") (by decide +kernel) rfl q_in5 (by decide) (x_up mw_306) rfl, ?_⟩
  refine List.forall_mem_cons.2 ⟨s_iload (by decide +kernel), ?_⟩
  refine List.forall_mem_cons.2 ⟨s_iald (by decide +kernel) rfl, ?_⟩
  refine List.forall_mem_cons.2 ⟨s_icmp_eq (off := 5) (by decide +kernel) (by decide), ?_⟩
  refine List.forall_mem_cons.2 ⟨s_iconst (k := 0) (by decide +kernel) (by decide +kernel), ?_⟩
  refine List.forall_mem_cons.2 ⟨s_ireturn (ty := .boolean) (by decide +kernel) rfl, ?_⟩
  refine List.forall_mem_cons.2 ⟨s_aload_n (k := 0) (by decide +kernel) rfl, ?_⟩
  refine List.forall_mem_cons.2 ⟨s_getfield (C := q_n5) (T := q_T5) (N := 9) (idx := 18) (ref := "ProofDesk$Graph") (by decide +kernel) rfl q_in5 (by decide) (x_up mw_308) rfl, ?_⟩
  refine List.forall_mem_cons.2 ⟨s_iload (by decide +kernel), ?_⟩
  refine List.forall_mem_cons.2 ⟨s_iload (by decide +kernel), ?_⟩
  exact fun _ h => absurd h List.not_mem_nil
def q_k44_2 : List (Nat × xO) := [(154, x_ast 155 0 (fun x => x)), (155, x_lda 156 0), (156, x_ldi 158 4), (158, x_ldi 160 5), (160, x_cv 163 46 3 5), (163, x_iinc 166 3 (1)), (166, x_st (x_goto 13)), (169, x_lda 170 0), (170, x_cv 173 48 1 5), (173, x_ri (.boolean))]
set_option maxRecDepth 100000 in
set_option maxHeartbeats 4000000 in
theorem q_s44_2 (l : Launch) (s0 : State) : ∀ q ∈ q_k44_2, x_Sim (x_K s0) none l q_y44 q_c44 6 (some .boolean) q_w44 q.1 q.2 := by
  unfold q_k44_2
  refine List.forall_mem_cons.2 ⟨s_iast (by decide +kernel) rfl, ?_⟩
  refine List.forall_mem_cons.2 ⟨s_aload_n (k := 0) (by decide +kernel) rfl, ?_⟩
  refine List.forall_mem_cons.2 ⟨s_iload (by decide +kernel), ?_⟩
  refine List.forall_mem_cons.2 ⟨s_iload (by decide +kernel), ?_⟩
  refine List.forall_mem_cons.2 ⟨s_invokevirtual (idx := 81) (M := 46) (k := 2) (ci := 5) (C := q_n5) (T := q_T5) (N := 9) (ym := q_y46) (wm := q_w46) (by decide +kernel) rfl rfl rfl (x_gdV mw_341 mw_342 mw_343 mw_321 mw_340) rfl (by decide +kernel) (by decide), ?_⟩
  refine List.forall_mem_cons.2 ⟨s_iinc (k := 1) (by decide +kernel) (by decide +kernel) (by decide), ?_⟩
  refine List.forall_mem_cons.2 ⟨s_goto (off := -153) (by decide +kernel) (by decide), ?_⟩
  refine List.forall_mem_cons.2 ⟨s_aload_n (k := 0) (by decide +kernel) rfl, ?_⟩
  refine List.forall_mem_cons.2 ⟨s_invokevirtual (idx := 84) (M := 48) (k := 0) (ci := 5) (C := q_n5) (T := q_T5) (N := 9) (ym := q_y48) (wm := q_w48) (by decide +kernel) rfl rfl rfl (x_gdV mw_345 mw_346 mw_347 mw_321 mw_344) rfl (by decide +kernel) (by decide), ?_⟩
  refine List.forall_mem_cons.2 ⟨s_ireturn (ty := .boolean) (by decide +kernel) rfl, ?_⟩
  exact fun _ h => absurd h List.not_mem_nil
def q_k44 : List (Nat × xO) := q_k44_0 ++ q_k44_1 ++ q_k44_2
theorem q_s44 (l : Launch) (s0 : State) : ∀ q ∈ q_k44, x_Sim (x_K s0) none l q_y44 q_c44 6 (some .boolean) q_w44 q.1 q.2 := by
  intro q hq
  simp only [q_k44, List.mem_append] at hq
  rcases hq with (h0 | h1) | h2
  · exact q_s44_0 l s0 q h0
  · exact q_s44_1 l s0 q h1
  · exact q_s44_2 l s0 q h2
/-- ProofDesk$Graph.join(II)V -/
def q_k45_0 : List (Nat × xO) := [(0, x_lda 1 0), (1, x_gf 4 5 8), (4, x_st (x_push 7 (.int (241)))), (7, x_st (x_icge 56 10)), (10, x_ldi 11 1), (11, x_lda 12 0), (12, x_gf 15 5 7), (15, x_st (x_icge 56 18)), (18, x_ldi 19 2), (19, x_lda 20 0), (20, x_gf 23 5 7), (23, x_st (x_icge 56 26)), (26, x_lda 27 0), (27, x_gf 30 5 5), (30, x_lda 31 0), (31, x_gf 34 5 8), (34, x_ldi 35 1), (35, x_ast 36 0 (fun x => x)), (36, x_lda 37 0), (37, x_gf 40 5 6), (40, x_lda 41 0), (41, x_gf 44 5 8), (44, x_ldi 45 2), (45, x_ast 46 0 (fun x => x)), (46, x_lda 47 0), (47, x_st (x_dup 48)), (48, x_gf 51 5 8), (51, x_st (x_push 52 (.int (1)))), (52, x_st (x_bin 53 (fun a b => a + b))), (53, x_pf 56 5 8 (.int)), (56, x_rv)]
set_option maxRecDepth 100000 in
set_option maxHeartbeats 4000000 in
theorem q_s45_0 (l : Launch) (s0 : State) : ∀ q ∈ q_k45_0, x_Sim (x_K s0) none l q_y45 q_c45 3 none q_w45 q.1 q.2 := by
  unfold q_k45_0
  refine List.forall_mem_cons.2 ⟨s_aload_n (k := 0) (by decide +kernel) rfl, ?_⟩
  refine List.forall_mem_cons.2 ⟨s_getfield (C := q_n5) (T := q_T5) (N := 9) (idx := 71) (ref := "ProofDesk$Graph") (by decide +kernel) rfl q_in5 (by decide) (x_up mw_331) rfl, ?_⟩
  refine List.forall_mem_cons.2 ⟨s_sipush (k := 241) (by decide +kernel) (by decide +kernel), ?_⟩
  refine List.forall_mem_cons.2 ⟨s_icmp_ge (off := 49) (by decide +kernel) (by decide), ?_⟩
  refine List.forall_mem_cons.2 ⟨s_iload_n (k := 1) (by decide +kernel) rfl, ?_⟩
  refine List.forall_mem_cons.2 ⟨s_aload_n (k := 0) (by decide +kernel) rfl, ?_⟩
  refine List.forall_mem_cons.2 ⟨s_getfield (C := q_n5) (T := q_T5) (N := 9) (idx := 34) (ref := "ProofDesk$Graph") (by decide +kernel) rfl q_in5 (by decide) (x_up mw_313) rfl, ?_⟩
  refine List.forall_mem_cons.2 ⟨s_icmp_ge (off := 41) (by decide +kernel) (by decide), ?_⟩
  refine List.forall_mem_cons.2 ⟨s_iload_n (k := 2) (by decide +kernel) rfl, ?_⟩
  refine List.forall_mem_cons.2 ⟨s_aload_n (k := 0) (by decide +kernel) rfl, ?_⟩
  refine List.forall_mem_cons.2 ⟨s_getfield (C := q_n5) (T := q_T5) (N := 9) (idx := 34) (ref := "ProofDesk$Graph") (by decide +kernel) rfl q_in5 (by decide) (x_up mw_313) rfl, ?_⟩
  refine List.forall_mem_cons.2 ⟨s_icmp_ge (off := 33) (by decide +kernel) (by decide), ?_⟩
  refine List.forall_mem_cons.2 ⟨s_aload_n (k := 0) (by decide +kernel) rfl, ?_⟩
  refine List.forall_mem_cons.2 ⟨s_getfield (C := q_n5) (T := q_T5) (N := 9) (idx := 28) (ref := "ProofDesk$Graph") (by decide +kernel) rfl q_in5 (by decide) (x_up mw_311) rfl, ?_⟩
  refine List.forall_mem_cons.2 ⟨s_aload_n (k := 0) (by decide +kernel) rfl, ?_⟩
  refine List.forall_mem_cons.2 ⟨s_getfield (C := q_n5) (T := q_T5) (N := 9) (idx := 71) (ref := "ProofDesk$Graph") (by decide +kernel) rfl q_in5 (by decide) (x_up mw_331) rfl, ?_⟩
  refine List.forall_mem_cons.2 ⟨s_iload_n (k := 1) (by decide +kernel) rfl, ?_⟩
  refine List.forall_mem_cons.2 ⟨s_iast (by decide +kernel) rfl, ?_⟩
  refine List.forall_mem_cons.2 ⟨s_aload_n (k := 0) (by decide +kernel) rfl, ?_⟩
  refine List.forall_mem_cons.2 ⟨s_getfield (C := q_n5) (T := q_T5) (N := 9) (idx := 31) (ref := "ProofDesk$Graph") (by decide +kernel) rfl q_in5 (by decide) (x_up mw_312) rfl, ?_⟩
  refine List.forall_mem_cons.2 ⟨s_aload_n (k := 0) (by decide +kernel) rfl, ?_⟩
  refine List.forall_mem_cons.2 ⟨s_getfield (C := q_n5) (T := q_T5) (N := 9) (idx := 71) (ref := "ProofDesk$Graph") (by decide +kernel) rfl q_in5 (by decide) (x_up mw_331) rfl, ?_⟩
  refine List.forall_mem_cons.2 ⟨s_iload_n (k := 2) (by decide +kernel) rfl, ?_⟩
  refine List.forall_mem_cons.2 ⟨s_iast (by decide +kernel) rfl, ?_⟩
  refine List.forall_mem_cons.2 ⟨s_aload_n (k := 0) (by decide +kernel) rfl, ?_⟩
  refine List.forall_mem_cons.2 ⟨s_dup (by decide +kernel), ?_⟩
  refine List.forall_mem_cons.2 ⟨s_getfield (C := q_n5) (T := q_T5) (N := 9) (idx := 71) (ref := "ProofDesk$Graph") (by decide +kernel) rfl q_in5 (by decide) (x_up mw_331) rfl, ?_⟩
  refine List.forall_mem_cons.2 ⟨s_iconst (k := 1) (by decide +kernel) (by decide +kernel), ?_⟩
  refine List.forall_mem_cons.2 ⟨s_iadd (by decide +kernel), ?_⟩
  refine List.forall_mem_cons.2 ⟨s_putfield (C := q_n5) (T := q_T5) (N := 9) (idx := 71) (ref := "ProofDesk$Graph") q_t5 (by decide +kernel) rfl q_in5 q_ty5 q_nm5 (by decide) (x_up mw_331) rfl rfl (by decide +kernel), ?_⟩
  refine List.forall_mem_cons.2 ⟨s_return (by decide +kernel) rfl, ?_⟩
  exact fun _ h => absurd h List.not_mem_nil
def q_k45 : List (Nat × xO) := q_k45_0
theorem q_s45 (l : Launch) (s0 : State) : ∀ q ∈ q_k45, x_Sim (x_K s0) none l q_y45 q_c45 3 none q_w45 q.1 q.2 := q_s45_0 l s0
/-- ProofDesk$Graph.joinTerms(II)V -/
def q_k46_0 : List (Nat × xO) := [(0, x_lda 1 0), (1, x_gf 4 5 0), (4, x_ldi 5 1), (5, x_ald 6 0), (6, x_cl_ 9 5 1), (9, x_sti 10 3), (10, x_ldi 11 1), (11, x_st (x_push 12 (.int (1)))), (12, x_st (x_bin 13 (fun a b => a + b))), (13, x_sti 15 4), (15, x_ldi 16 2), (16, x_st (x_push 17 (.int (1)))), (17, x_st (x_bin 18 (fun a b => a + b))), (18, x_sti 20 5), (20, x_st (x_push 21 (.int (0)))), (21, x_sti 23 6), (23, x_ldi 25 6), (25, x_ldi 26 3), (26, x_st (x_icge 59 29)), (29, x_lda 30 0), (30, x_ldi 32 4), (32, x_ldi 34 5), (34, x_cv 37 45 3 5), (37, x_lda 38 0), (38, x_ldi 40 4), (40, x_cv 43 43 2 5), (43, x_sti 45 4), (45, x_lda 46 0), (46, x_ldi 48 5), (48, x_cv 51 43 2 5), (51, x_sti 53 5), (53, x_iinc 56 6 (1)), (56, x_st (x_goto 23)), (59, x_rv)]
set_option maxRecDepth 100000 in
set_option maxHeartbeats 4000000 in
theorem q_s46_0 (l : Launch) (s0 : State) : ∀ q ∈ q_k46_0, x_Sim (x_K s0) none l q_y46 q_c46 7 none q_w46 q.1 q.2 := by
  unfold q_k46_0
  refine List.forall_mem_cons.2 ⟨s_aload_n (k := 0) (by decide +kernel) rfl, ?_⟩
  refine List.forall_mem_cons.2 ⟨s_getfield (C := q_n5) (T := q_T5) (N := 9) (idx := 11) (ref := "ProofDesk$Graph") (by decide +kernel) rfl q_in5 (by decide) (x_up mw_306) rfl, ?_⟩
  refine List.forall_mem_cons.2 ⟨s_iload_n (k := 1) (by decide +kernel) rfl, ?_⟩
  refine List.forall_mem_cons.2 ⟨s_iald (by decide +kernel) rfl, ?_⟩
  refine List.forall_mem_cons.2 ⟨s_invokestatic (idx := 68) (M := 5) (ym := q_y5) (wm := q_w5) (by decide +kernel) rfl rfl (x_gdS mw_330 mw_216 mw_175 mw_214) rfl (by decide +kernel) (by decide), ?_⟩
  refine List.forall_mem_cons.2 ⟨s_istore_n (k := 3) (by decide +kernel) rfl (by decide), ?_⟩
  refine List.forall_mem_cons.2 ⟨s_iload_n (k := 1) (by decide +kernel) rfl, ?_⟩
  refine List.forall_mem_cons.2 ⟨s_iconst (k := 1) (by decide +kernel) (by decide +kernel), ?_⟩
  refine List.forall_mem_cons.2 ⟨s_iadd (by decide +kernel), ?_⟩
  refine List.forall_mem_cons.2 ⟨s_istore (by decide +kernel) (by decide), ?_⟩
  refine List.forall_mem_cons.2 ⟨s_iload_n (k := 2) (by decide +kernel) rfl, ?_⟩
  refine List.forall_mem_cons.2 ⟨s_iconst (k := 1) (by decide +kernel) (by decide +kernel), ?_⟩
  refine List.forall_mem_cons.2 ⟨s_iadd (by decide +kernel), ?_⟩
  refine List.forall_mem_cons.2 ⟨s_istore (by decide +kernel) (by decide), ?_⟩
  refine List.forall_mem_cons.2 ⟨s_iconst (k := 0) (by decide +kernel) (by decide +kernel), ?_⟩
  refine List.forall_mem_cons.2 ⟨s_istore (by decide +kernel) (by decide), ?_⟩
  refine List.forall_mem_cons.2 ⟨s_iload (by decide +kernel), ?_⟩
  refine List.forall_mem_cons.2 ⟨s_iload_n (k := 3) (by decide +kernel) rfl, ?_⟩
  refine List.forall_mem_cons.2 ⟨s_icmp_ge (off := 33) (by decide +kernel) (by decide), ?_⟩
  refine List.forall_mem_cons.2 ⟨s_aload_n (k := 0) (by decide +kernel) rfl, ?_⟩
  refine List.forall_mem_cons.2 ⟨s_iload (by decide +kernel), ?_⟩
  refine List.forall_mem_cons.2 ⟨s_iload (by decide +kernel), ?_⟩
  refine List.forall_mem_cons.2 ⟨s_invokevirtual (idx := 74) (M := 45) (k := 2) (ci := 5) (C := q_n5) (T := q_T5) (N := 9) (ym := q_y45) (wm := q_w45) (by decide +kernel) rfl rfl rfl (x_gdV mw_333 mw_334 mw_335 mw_321 mw_332) rfl (by decide +kernel) (by decide), ?_⟩
  refine List.forall_mem_cons.2 ⟨s_aload_n (k := 0) (by decide +kernel) rfl, ?_⟩
  refine List.forall_mem_cons.2 ⟨s_iload (by decide +kernel), ?_⟩
  refine List.forall_mem_cons.2 ⟨s_invokevirtual (idx := 88) (M := 43) (k := 1) (ci := 5) (C := q_n5) (T := q_T5) (N := 9) (ym := q_y43) (wm := q_w43) (by decide +kernel) rfl rfl rfl (x_gdV mw_349 mw_350 mw_351 mw_321 mw_348) rfl (by decide +kernel) (by decide), ?_⟩
  refine List.forall_mem_cons.2 ⟨s_istore (by decide +kernel) (by decide), ?_⟩
  refine List.forall_mem_cons.2 ⟨s_aload_n (k := 0) (by decide +kernel) rfl, ?_⟩
  refine List.forall_mem_cons.2 ⟨s_iload (by decide +kernel), ?_⟩
  refine List.forall_mem_cons.2 ⟨s_invokevirtual (idx := 88) (M := 43) (k := 1) (ci := 5) (C := q_n5) (T := q_T5) (N := 9) (ym := q_y43) (wm := q_w43) (by decide +kernel) rfl rfl rfl (x_gdV mw_349 mw_350 mw_351 mw_321 mw_348) rfl (by decide +kernel) (by decide), ?_⟩
  refine List.forall_mem_cons.2 ⟨s_istore (by decide +kernel) (by decide), ?_⟩
  refine List.forall_mem_cons.2 ⟨s_iinc (k := 1) (by decide +kernel) (by decide +kernel) (by decide), ?_⟩
  refine List.forall_mem_cons.2 ⟨s_goto (off := -33) (by decide +kernel) (by decide), ?_⟩
  refine List.forall_mem_cons.2 ⟨s_return (by decide +kernel) rfl, ?_⟩
  exact fun _ h => absurd h List.not_mem_nil
def q_k46 : List (Nat × xO) := q_k46_0
theorem q_s46 (l : Launch) (s0 : State) : ∀ q ∈ q_k46, x_Sim (x_K s0) none l q_y46 q_c46 7 none q_w46 q.1 q.2 := q_s46_0 l s0
/-- ProofDesk$Graph.findRoot(I)I -/
def q_k47_0 : List (Nat × xO) := [(0, x_ldi 1 1), (1, x_sti 2 2), (2, x_st (x_push 3 (.int (0)))), (3, x_sti 4 3), (4, x_ldi 5 3), (5, x_st (x_push 7 (.int (80)))), (7, x_st (x_icge 33 10)), (10, x_lda 11 0), (11, x_gf 14 5 2), (14, x_ldi 15 2), (15, x_ald 16 0), (16, x_ldi 17 2), (17, x_st (x_iceq 33 20)), (20, x_lda 21 0), (21, x_gf 24 5 2), (24, x_ldi 25 2), (25, x_ald 26 0), (26, x_sti 27 2), (27, x_iinc 30 3 (1)), (30, x_st (x_goto 4)), (33, x_ldi 34 2), (34, x_ri (.int))]
set_option maxRecDepth 100000 in
set_option maxHeartbeats 4000000 in
theorem q_s47_0 (l : Launch) (s0 : State) : ∀ q ∈ q_k47_0, x_Sim (x_K s0) none l q_y47 q_c47 4 (some .int) q_w47 q.1 q.2 := by
  unfold q_k47_0
  refine List.forall_mem_cons.2 ⟨s_iload_n (k := 1) (by decide +kernel) rfl, ?_⟩
  refine List.forall_mem_cons.2 ⟨s_istore_n (k := 2) (by decide +kernel) rfl (by decide), ?_⟩
  refine List.forall_mem_cons.2 ⟨s_iconst (k := 0) (by decide +kernel) (by decide +kernel), ?_⟩
  refine List.forall_mem_cons.2 ⟨s_istore_n (k := 3) (by decide +kernel) rfl (by decide), ?_⟩
  refine List.forall_mem_cons.2 ⟨s_iload_n (k := 3) (by decide +kernel) rfl, ?_⟩
  refine List.forall_mem_cons.2 ⟨s_bipush (k := 80) (by decide +kernel) (by decide +kernel), ?_⟩
  refine List.forall_mem_cons.2 ⟨s_icmp_ge (off := 26) (by decide +kernel) (by decide), ?_⟩
  refine List.forall_mem_cons.2 ⟨s_aload_n (k := 0) (by decide +kernel) rfl, ?_⟩
  refine List.forall_mem_cons.2 ⟨s_getfield (C := q_n5) (T := q_T5) (N := 9) (idx := 18) (ref := "ProofDesk$Graph") (by decide +kernel) rfl q_in5 (by decide) (x_up mw_308) rfl, ?_⟩
  refine List.forall_mem_cons.2 ⟨s_iload_n (k := 2) (by decide +kernel) rfl, ?_⟩
  refine List.forall_mem_cons.2 ⟨s_iald (by decide +kernel) rfl, ?_⟩
  refine List.forall_mem_cons.2 ⟨s_iload_n (k := 2) (by decide +kernel) rfl, ?_⟩
  refine List.forall_mem_cons.2 ⟨s_icmp_eq (off := 16) (by decide +kernel) (by decide), ?_⟩
  refine List.forall_mem_cons.2 ⟨s_aload_n (k := 0) (by decide +kernel) rfl, ?_⟩
  refine List.forall_mem_cons.2 ⟨s_getfield (C := q_n5) (T := q_T5) (N := 9) (idx := 18) (ref := "ProofDesk$Graph") (by decide +kernel) rfl q_in5 (by decide) (x_up mw_308) rfl, ?_⟩
  refine List.forall_mem_cons.2 ⟨s_iload_n (k := 2) (by decide +kernel) rfl, ?_⟩
  refine List.forall_mem_cons.2 ⟨s_iald (by decide +kernel) rfl, ?_⟩
  refine List.forall_mem_cons.2 ⟨s_istore_n (k := 2) (by decide +kernel) rfl (by decide), ?_⟩
  refine List.forall_mem_cons.2 ⟨s_iinc (k := 1) (by decide +kernel) (by decide +kernel) (by decide), ?_⟩
  refine List.forall_mem_cons.2 ⟨s_goto (off := -26) (by decide +kernel) (by decide), ?_⟩
  refine List.forall_mem_cons.2 ⟨s_iload_n (k := 2) (by decide +kernel) rfl, ?_⟩
  refine List.forall_mem_cons.2 ⟨s_ireturn (ty := .int) (by decide +kernel) rfl, ?_⟩
  exact fun _ h => absurd h List.not_mem_nil
def q_k47 : List (Nat × xO) := q_k47_0
theorem q_s47 (l : Launch) (s0 : State) : ∀ q ∈ q_k47, x_Sim (x_K s0) none l q_y47 q_c47 4 (some .int) q_w47 q.1 q.2 := q_s47_0 l s0
/-- ProofDesk$Graph.areAllFinite()Z -/
def q_k48_0 : List (Nat × xO) := [(0, x_st (x_push 1 (.int (0)))), (1, x_sti 2 1), (2, x_ldi 3 1), (3, x_lda 4 0), (4, x_gf 7 5 7), (7, x_st (x_icge 34 10)), (10, x_lda 11 0), (11, x_gf 14 5 2), (14, x_ldi 15 1), (15, x_lda 16 0), (16, x_ldi 17 1), (17, x_cv 20 47 2 5), (20, x_ast 21 0 (fun x => x)), (21, x_lda 22 0), (22, x_gf 25 5 4), (25, x_ldi 26 1), (26, x_st (x_push 27 (.int (0)))), (27, x_ast 28 1 (fun x => vp_nar .boolean x)), (28, x_iinc 31 1 (1)), (31, x_st (x_goto 2)), (34, x_st (x_push 35 (.int (1)))), (35, x_sti 36 1), (36, x_st (x_push 37 (.int (0)))), (37, x_sti 38 2), (38, x_st (x_push 39 (.int (0)))), (39, x_sti 40 3), (40, x_ldi 41 3), (41, x_st (x_push 43 (.int (80)))), (43, x_st (x_icgt 158 46)), (46, x_ldi 47 1), (47, x_st (x_ifeq 158 50)), (50, x_ldi 51 2), (51, x_st (x_ifne 158 54)), (54, x_st (x_push 55 (.int (0)))), (55, x_sti 56 1), (56, x_st (x_push 57 (.int (1)))), (57, x_sti 58 2), (58, x_lda 59 0), (59, x_gf 62 5 7), (62, x_st (x_push 63 (.int (1))))]
set_option maxRecDepth 100000 in
set_option maxHeartbeats 4000000 in
theorem q_s48_0 (l : Launch) (s0 : State) : ∀ q ∈ q_k48_0, x_Sim (x_K s0) none l q_y48 q_c48 5 (some .boolean) q_w48 q.1 q.2 := by
  unfold q_k48_0
  refine List.forall_mem_cons.2 ⟨s_iconst (k := 0) (by decide +kernel) (by decide +kernel), ?_⟩
  refine List.forall_mem_cons.2 ⟨s_istore_n (k := 1) (by decide +kernel) rfl (by decide), ?_⟩
  refine List.forall_mem_cons.2 ⟨s_iload_n (k := 1) (by decide +kernel) rfl, ?_⟩
  refine List.forall_mem_cons.2 ⟨s_aload_n (k := 0) (by decide +kernel) rfl, ?_⟩
  refine List.forall_mem_cons.2 ⟨s_getfield (C := q_n5) (T := q_T5) (N := 9) (idx := 34) (ref := "ProofDesk$Graph") (by decide +kernel) rfl q_in5 (by decide) (x_up mw_313) rfl, ?_⟩
  refine List.forall_mem_cons.2 ⟨s_icmp_ge (off := 27) (by decide +kernel) (by decide), ?_⟩
  refine List.forall_mem_cons.2 ⟨s_aload_n (k := 0) (by decide +kernel) rfl, ?_⟩
  refine List.forall_mem_cons.2 ⟨s_getfield (C := q_n5) (T := q_T5) (N := 9) (idx := 18) (ref := "ProofDesk$Graph") (by decide +kernel) rfl q_in5 (by decide) (x_up mw_308) rfl, ?_⟩
  refine List.forall_mem_cons.2 ⟨s_iload_n (k := 1) (by decide +kernel) rfl, ?_⟩
  refine List.forall_mem_cons.2 ⟨s_aload_n (k := 0) (by decide +kernel) rfl, ?_⟩
  refine List.forall_mem_cons.2 ⟨s_iload_n (k := 1) (by decide +kernel) rfl, ?_⟩
  refine List.forall_mem_cons.2 ⟨s_invokevirtual (idx := 78) (M := 47) (k := 1) (ci := 5) (C := q_n5) (T := q_T5) (N := 9) (ym := q_y47) (wm := q_w47) (by decide +kernel) rfl rfl rfl (x_gdV mw_337 mw_338 mw_339 mw_321 mw_336) rfl (by decide +kernel) (by decide), ?_⟩
  refine List.forall_mem_cons.2 ⟨s_iast (by decide +kernel) rfl, ?_⟩
  refine List.forall_mem_cons.2 ⟨s_aload_n (k := 0) (by decide +kernel) rfl, ?_⟩
  refine List.forall_mem_cons.2 ⟨s_getfield (C := q_n5) (T := q_T5) (N := 9) (idx := 24) (ref := "ProofDesk$Graph") (by decide +kernel) rfl q_in5 (by decide) (x_up mw_310) rfl, ?_⟩
  refine List.forall_mem_cons.2 ⟨s_iload_n (k := 1) (by decide +kernel) rfl, ?_⟩
  refine List.forall_mem_cons.2 ⟨s_iconst (k := 0) (by decide +kernel) (by decide +kernel), ?_⟩
  refine List.forall_mem_cons.2 ⟨s_zast (by decide +kernel) rfl, ?_⟩
  refine List.forall_mem_cons.2 ⟨s_iinc (k := 1) (by decide +kernel) (by decide +kernel) (by decide), ?_⟩
  refine List.forall_mem_cons.2 ⟨s_goto (off := -29) (by decide +kernel) (by decide), ?_⟩
  refine List.forall_mem_cons.2 ⟨s_iconst (k := 1) (by decide +kernel) (by decide +kernel), ?_⟩
  refine List.forall_mem_cons.2 ⟨s_istore_n (k := 1) (by decide +kernel) rfl (by decide), ?_⟩
  refine List.forall_mem_cons.2 ⟨s_iconst (k := 0) (by decide +kernel) (by decide +kernel), ?_⟩
  refine List.forall_mem_cons.2 ⟨s_istore_n (k := 2) (by decide +kernel) rfl (by decide), ?_⟩
  refine List.forall_mem_cons.2 ⟨s_iconst (k := 0) (by decide +kernel) (by decide +kernel), ?_⟩
  refine List.forall_mem_cons.2 ⟨s_istore_n (k := 3) (by decide +kernel) rfl (by decide), ?_⟩
  refine List.forall_mem_cons.2 ⟨s_iload_n (k := 3) (by decide +kernel) rfl, ?_⟩
  refine List.forall_mem_cons.2 ⟨s_bipush (k := 80) (by decide +kernel) (by decide +kernel), ?_⟩
  refine List.forall_mem_cons.2 ⟨s_icmp_gt (off := 115) (by decide +kernel) (by decide), ?_⟩
  refine List.forall_mem_cons.2 ⟨s_iload_n (k := 1) (by decide +kernel) rfl, ?_⟩
  refine List.forall_mem_cons.2 ⟨s_ifeq (off := 111) (by decide +kernel) (by decide), ?_⟩
  refine List.forall_mem_cons.2 ⟨s_iload_n (k := 2) (by decide +kernel) rfl, ?_⟩
  refine List.forall_mem_cons.2 ⟨s_ifne (off := 107) (by decide +kernel) (by decide), ?_⟩
  refine List.forall_mem_cons.2 ⟨s_iconst (k := 0) (by decide +kernel) (by decide +kernel), ?_⟩
  refine List.forall_mem_cons.2 ⟨s_istore_n (k := 1) (by decide +kernel) rfl (by decide), ?_⟩
  refine List.forall_mem_cons.2 ⟨s_iconst (k := 1) (by decide +kernel) (by decide +kernel), ?_⟩
  refine List.forall_mem_cons.2 ⟨s_istore_n (k := 2) (by decide +kernel) rfl (by decide), ?_⟩
  refine List.forall_mem_cons.2 ⟨s_aload_n (k := 0) (by decide +kernel) rfl, ?_⟩
  refine List.forall_mem_cons.2 ⟨s_getfield (C := q_n5) (T := q_T5) (N := 9) (idx := 34) (ref := "ProofDesk$Graph") (by decide +kernel) rfl q_in5 (by decide) (x_up mw_313) rfl, ?_⟩
  refine List.forall_mem_cons.2 ⟨s_iconst (k := 1) (by decide +kernel) (by decide +kernel), ?_⟩
  exact fun _ h => absurd h List.not_mem_nil
def q_k48_1 : List (Nat × xO) := [(63, x_st (x_bin 64 (fun a b => a - b))), (64, x_sti 66 4), (66, x_ldi 68 4), (68, x_st (x_iflt 152 71)), (71, x_lda 72 0), (72, x_gf 75 5 2), (75, x_ldi 77 4), (77, x_ald 78 0), (78, x_ldi 80 4), (80, x_st (x_icne 146 83)), (83, x_lda 84 0), (84, x_gf 87 5 4), (87, x_ldi 89 4), (89, x_ald 90 1), (90, x_st (x_ifne 146 93)), (93, x_lda 94 0), (94, x_gf 97 5 4), (97, x_ldi 99 4), (99, x_lda 100 0), (100, x_ldi 102 4), (102, x_cv 105 49 2 5), (105, x_ast 106 1 (fun x => vp_nar .boolean x)), (106, x_ldi 107 1), (107, x_st (x_ifne 120 110)), (110, x_lda 111 0), (111, x_gf 114 5 4), (114, x_ldi 116 4), (116, x_ald 117 1), (117, x_st (x_ifeq 124 120)), (120, x_st (x_push 121 (.int (1)))), (121, x_st (x_goto 125)), (124, x_st (x_push 125 (.int (0)))), (125, x_sti 126 1), (126, x_ldi 127 2), (127, x_st (x_ifeq 144 130)), (130, x_lda 131 0), (131, x_gf 134 5 4), (134, x_ldi 136 4), (136, x_ald 137 1), (137, x_st (x_ifeq 144 140))]
set_option maxRecDepth 100000 in
set_option maxHeartbeats 4000000 in
theorem q_s48_1 (l : Launch) (s0 : State) : ∀ q ∈ q_k48_1, x_Sim (x_K s0) none l q_y48 q_c48 5 (some .boolean) q_w48 q.1 q.2 := by
  unfold q_k48_1
  refine List.forall_mem_cons.2 ⟨s_isub (by decide +kernel), ?_⟩
  refine List.forall_mem_cons.2 ⟨s_istore (by decide +kernel) (by decide), ?_⟩
  refine List.forall_mem_cons.2 ⟨s_iload (by decide +kernel), ?_⟩
  refine List.forall_mem_cons.2 ⟨s_iflt (off := 84) (by decide +kernel) (by decide), ?_⟩
  refine List.forall_mem_cons.2 ⟨s_aload_n (k := 0) (by decide +kernel) rfl, ?_⟩
  refine List.forall_mem_cons.2 ⟨s_getfield (C := q_n5) (T := q_T5) (N := 9) (idx := 18) (ref := "ProofDesk$Graph") (by decide +kernel) rfl q_in5 (by decide) (x_up mw_308) rfl, ?_⟩
  refine List.forall_mem_cons.2 ⟨s_iload (by decide +kernel), ?_⟩
  refine List.forall_mem_cons.2 ⟨s_iald (by decide +kernel) rfl, ?_⟩
  refine List.forall_mem_cons.2 ⟨s_iload (by decide +kernel), ?_⟩
  refine List.forall_mem_cons.2 ⟨s_icmp_ne (off := 66) (by decide +kernel) (by decide), ?_⟩
  refine List.forall_mem_cons.2 ⟨s_aload_n (k := 0) (by decide +kernel) rfl, ?_⟩
  refine List.forall_mem_cons.2 ⟨s_getfield (C := q_n5) (T := q_T5) (N := 9) (idx := 24) (ref := "ProofDesk$Graph") (by decide +kernel) rfl q_in5 (by decide) (x_up mw_310) rfl, ?_⟩
  refine List.forall_mem_cons.2 ⟨s_iload (by decide +kernel), ?_⟩
  refine List.forall_mem_cons.2 ⟨s_zald (by decide +kernel) rfl, ?_⟩
  refine List.forall_mem_cons.2 ⟨s_ifne (off := 56) (by decide +kernel) (by decide), ?_⟩
  refine List.forall_mem_cons.2 ⟨s_aload_n (k := 0) (by decide +kernel) rfl, ?_⟩
  refine List.forall_mem_cons.2 ⟨s_getfield (C := q_n5) (T := q_T5) (N := 9) (idx := 24) (ref := "ProofDesk$Graph") (by decide +kernel) rfl q_in5 (by decide) (x_up mw_310) rfl, ?_⟩
  refine List.forall_mem_cons.2 ⟨s_iload (by decide +kernel), ?_⟩
  refine List.forall_mem_cons.2 ⟨s_aload_n (k := 0) (by decide +kernel) rfl, ?_⟩
  refine List.forall_mem_cons.2 ⟨s_iload (by decide +kernel), ?_⟩
  refine List.forall_mem_cons.2 ⟨s_invokevirtual (idx := 91) (M := 49) (k := 1) (ci := 5) (C := q_n5) (T := q_T5) (N := 9) (ym := q_y49) (wm := q_w49) (by decide +kernel) rfl rfl rfl (x_gdV mw_353 mw_354 mw_355 mw_321 mw_352) rfl (by decide +kernel) (by decide), ?_⟩
  refine List.forall_mem_cons.2 ⟨s_zast (by decide +kernel) rfl, ?_⟩
  refine List.forall_mem_cons.2 ⟨s_iload_n (k := 1) (by decide +kernel) rfl, ?_⟩
  refine List.forall_mem_cons.2 ⟨s_ifne (off := 13) (by decide +kernel) (by decide), ?_⟩
  refine List.forall_mem_cons.2 ⟨s_aload_n (k := 0) (by decide +kernel) rfl, ?_⟩
  refine List.forall_mem_cons.2 ⟨s_getfield (C := q_n5) (T := q_T5) (N := 9) (idx := 24) (ref := "ProofDesk$Graph") (by decide +kernel) rfl q_in5 (by decide) (x_up mw_310) rfl, ?_⟩
  refine List.forall_mem_cons.2 ⟨s_iload (by decide +kernel), ?_⟩
  refine List.forall_mem_cons.2 ⟨s_zald (by decide +kernel) rfl, ?_⟩
  refine List.forall_mem_cons.2 ⟨s_ifeq (off := 7) (by decide +kernel) (by decide), ?_⟩
  refine List.forall_mem_cons.2 ⟨s_iconst (k := 1) (by decide +kernel) (by decide +kernel), ?_⟩
  refine List.forall_mem_cons.2 ⟨s_goto (off := 4) (by decide +kernel) (by decide), ?_⟩
  refine List.forall_mem_cons.2 ⟨s_iconst (k := 0) (by decide +kernel) (by decide +kernel), ?_⟩
  refine List.forall_mem_cons.2 ⟨s_istore_n (k := 1) (by decide +kernel) rfl (by decide), ?_⟩
  refine List.forall_mem_cons.2 ⟨s_iload_n (k := 2) (by decide +kernel) rfl, ?_⟩
  refine List.forall_mem_cons.2 ⟨s_ifeq (off := 17) (by decide +kernel) (by decide), ?_⟩
  refine List.forall_mem_cons.2 ⟨s_aload_n (k := 0) (by decide +kernel) rfl, ?_⟩
  refine List.forall_mem_cons.2 ⟨s_getfield (C := q_n5) (T := q_T5) (N := 9) (idx := 24) (ref := "ProofDesk$Graph") (by decide +kernel) rfl q_in5 (by decide) (x_up mw_310) rfl, ?_⟩
  refine List.forall_mem_cons.2 ⟨s_iload (by decide +kernel), ?_⟩
  refine List.forall_mem_cons.2 ⟨s_zald (by decide +kernel) rfl, ?_⟩
  refine List.forall_mem_cons.2 ⟨s_ifeq (off := 7) (by decide +kernel) (by decide), ?_⟩
  exact fun _ h => absurd h List.not_mem_nil
def q_k48_2 : List (Nat × xO) := [(140, x_st (x_push 141 (.int (1)))), (141, x_st (x_goto 145)), (144, x_st (x_push 145 (.int (0)))), (145, x_sti 146 2), (146, x_iinc 149 4 (-1)), (149, x_st (x_goto 66)), (152, x_iinc 155 3 (1)), (155, x_st (x_goto 40)), (158, x_ldi 159 2), (159, x_ri (.boolean))]
set_option maxRecDepth 100000 in
set_option maxHeartbeats 4000000 in
theorem q_s48_2 (l : Launch) (s0 : State) : ∀ q ∈ q_k48_2, x_Sim (x_K s0) none l q_y48 q_c48 5 (some .boolean) q_w48 q.1 q.2 := by
  unfold q_k48_2
  refine List.forall_mem_cons.2 ⟨s_iconst (k := 1) (by decide +kernel) (by decide +kernel), ?_⟩
  refine List.forall_mem_cons.2 ⟨s_goto (off := 4) (by decide +kernel) (by decide), ?_⟩
  refine List.forall_mem_cons.2 ⟨s_iconst (k := 0) (by decide +kernel) (by decide +kernel), ?_⟩
  refine List.forall_mem_cons.2 ⟨s_istore_n (k := 2) (by decide +kernel) rfl (by decide), ?_⟩
  refine List.forall_mem_cons.2 ⟨s_iinc (k := -1) (by decide +kernel) (by decide +kernel) (by decide), ?_⟩
  refine List.forall_mem_cons.2 ⟨s_goto (off := -83) (by decide +kernel) (by decide), ?_⟩
  refine List.forall_mem_cons.2 ⟨s_iinc (k := 1) (by decide +kernel) (by decide +kernel) (by decide), ?_⟩
  refine List.forall_mem_cons.2 ⟨s_goto (off := -115) (by decide +kernel) (by decide), ?_⟩
  refine List.forall_mem_cons.2 ⟨s_iload_n (k := 2) (by decide +kernel) rfl, ?_⟩
  refine List.forall_mem_cons.2 ⟨s_ireturn (ty := .boolean) (by decide +kernel) rfl, ?_⟩
  exact fun _ h => absurd h List.not_mem_nil
def q_k48 : List (Nat × xO) := q_k48_0 ++ q_k48_1 ++ q_k48_2
theorem q_s48 (l : Launch) (s0 : State) : ∀ q ∈ q_k48, x_Sim (x_K s0) none l q_y48 q_c48 5 (some .boolean) q_w48 q.1 q.2 := by
  intro q hq
  simp only [q_k48, List.mem_append] at hq
  rcases hq with (h0 | h1) | h2
  · exact q_s48_0 l s0 q h0
  · exact q_s48_1 l s0 q h1
  · exact q_s48_2 l s0 q h2
/-- ProofDesk$Graph.areTermsFinite(I)Z -/
def q_k49_0 : List (Nat × xO) := [(0, x_lda 1 0), (1, x_gf 4 5 0), (4, x_ldi 5 1), (5, x_ald 6 0), (6, x_cl_ 9 5 1), (9, x_sti 10 2), (10, x_ldi 11 1), (11, x_st (x_push 12 (.int (1)))), (12, x_st (x_bin 13 (fun a b => a + b))), (13, x_sti 14 3), (14, x_st (x_push 15 (.int (0)))), (15, x_sti 17 4), (17, x_ldi 19 4), (19, x_ldi 20 2), (20, x_st (x_icge 60 23)), (23, x_ldi 24 3), (24, x_lda 25 0), (25, x_gf 28 5 7), (28, x_st (x_icge 60 31)), (31, x_lda 32 0), (32, x_gf 35 5 4), (35, x_lda 36 0), (36, x_gf 39 5 2), (39, x_ldi 40 3), (40, x_ald 41 0), (41, x_ald 42 1), (42, x_st (x_ifne 47 45)), (45, x_st (x_push 46 (.int (0)))), (46, x_ri (.boolean)), (47, x_lda 48 0), (48, x_gf 51 5 1), (51, x_ldi 52 3), (52, x_ald 53 0), (53, x_sti 54 3), (54, x_iinc 57 4 (1)), (57, x_st (x_goto 17)), (60, x_st (x_push 61 (.int (1)))), (61, x_ri (.boolean))]
set_option maxRecDepth 100000 in
set_option maxHeartbeats 4000000 in
theorem q_s49_0 (l : Launch) (s0 : State) : ∀ q ∈ q_k49_0, x_Sim (x_K s0) none l q_y49 q_c49 5 (some .boolean) q_w49 q.1 q.2 := by
  unfold q_k49_0
  refine List.forall_mem_cons.2 ⟨s_aload_n (k := 0) (by decide +kernel) rfl, ?_⟩
  refine List.forall_mem_cons.2 ⟨s_getfield (C := q_n5) (T := q_T5) (N := 9) (idx := 11) (ref := "ProofDesk$Graph") (by decide +kernel) rfl q_in5 (by decide) (x_up mw_306) rfl, ?_⟩
  refine List.forall_mem_cons.2 ⟨s_iload_n (k := 1) (by decide +kernel) rfl, ?_⟩
  refine List.forall_mem_cons.2 ⟨s_iald (by decide +kernel) rfl, ?_⟩
  refine List.forall_mem_cons.2 ⟨s_invokestatic (idx := 68) (M := 5) (ym := q_y5) (wm := q_w5) (by decide +kernel) rfl rfl (x_gdS mw_330 mw_216 mw_175 mw_214) rfl (by decide +kernel) (by decide), ?_⟩
  refine List.forall_mem_cons.2 ⟨s_istore_n (k := 2) (by decide +kernel) rfl (by decide), ?_⟩
  refine List.forall_mem_cons.2 ⟨s_iload_n (k := 1) (by decide +kernel) rfl, ?_⟩
  refine List.forall_mem_cons.2 ⟨s_iconst (k := 1) (by decide +kernel) (by decide +kernel), ?_⟩
  refine List.forall_mem_cons.2 ⟨s_iadd (by decide +kernel), ?_⟩
  refine List.forall_mem_cons.2 ⟨s_istore_n (k := 3) (by decide +kernel) rfl (by decide), ?_⟩
  refine List.forall_mem_cons.2 ⟨s_iconst (k := 0) (by decide +kernel) (by decide +kernel), ?_⟩
  refine List.forall_mem_cons.2 ⟨s_istore (by decide +kernel) (by decide), ?_⟩
  refine List.forall_mem_cons.2 ⟨s_iload (by decide +kernel), ?_⟩
  refine List.forall_mem_cons.2 ⟨s_iload_n (k := 2) (by decide +kernel) rfl, ?_⟩
  refine List.forall_mem_cons.2 ⟨s_icmp_ge (off := 40) (by decide +kernel) (by decide), ?_⟩
  refine List.forall_mem_cons.2 ⟨s_iload_n (k := 3) (by decide +kernel) rfl, ?_⟩
  refine List.forall_mem_cons.2 ⟨s_aload_n (k := 0) (by decide +kernel) rfl, ?_⟩
  refine List.forall_mem_cons.2 ⟨s_getfield (C := q_n5) (T := q_T5) (N := 9) (idx := 34) (ref := "ProofDesk$Graph") (by decide +kernel) rfl q_in5 (by decide) (x_up mw_313) rfl, ?_⟩
  refine List.forall_mem_cons.2 ⟨s_icmp_ge (off := 32) (by decide +kernel) (by decide), ?_⟩
  refine List.forall_mem_cons.2 ⟨s_aload_n (k := 0) (by decide +kernel) rfl, ?_⟩
  refine List.forall_mem_cons.2 ⟨s_getfield (C := q_n5) (T := q_T5) (N := 9) (idx := 24) (ref := "ProofDesk$Graph") (by decide +kernel) rfl q_in5 (by decide) (x_up mw_310) rfl, ?_⟩
  refine List.forall_mem_cons.2 ⟨s_aload_n (k := 0) (by decide +kernel) rfl, ?_⟩
  refine List.forall_mem_cons.2 ⟨s_getfield (C := q_n5) (T := q_T5) (N := 9) (idx := 18) (ref := "ProofDesk$Graph") (by decide +kernel) rfl q_in5 (by decide) (x_up mw_308) rfl, ?_⟩
  refine List.forall_mem_cons.2 ⟨s_iload_n (k := 3) (by decide +kernel) rfl, ?_⟩
  refine List.forall_mem_cons.2 ⟨s_iald (by decide +kernel) rfl, ?_⟩
  refine List.forall_mem_cons.2 ⟨s_zald (by decide +kernel) rfl, ?_⟩
  refine List.forall_mem_cons.2 ⟨s_ifne (off := 5) (by decide +kernel) (by decide), ?_⟩
  refine List.forall_mem_cons.2 ⟨s_iconst (k := 0) (by decide +kernel) (by decide +kernel), ?_⟩
  refine List.forall_mem_cons.2 ⟨s_ireturn (ty := .boolean) (by decide +kernel) rfl, ?_⟩
  refine List.forall_mem_cons.2 ⟨s_aload_n (k := 0) (by decide +kernel) rfl, ?_⟩
  refine List.forall_mem_cons.2 ⟨s_getfield (C := q_n5) (T := q_T5) (N := 9) (idx := 15) (ref := "ProofDesk$Graph") (by decide +kernel) rfl q_in5 (by decide) (x_up mw_307) rfl, ?_⟩
  refine List.forall_mem_cons.2 ⟨s_iload_n (k := 3) (by decide +kernel) rfl, ?_⟩
  refine List.forall_mem_cons.2 ⟨s_iald (by decide +kernel) rfl, ?_⟩
  refine List.forall_mem_cons.2 ⟨s_istore_n (k := 3) (by decide +kernel) rfl (by decide), ?_⟩
  refine List.forall_mem_cons.2 ⟨s_iinc (k := 1) (by decide +kernel) (by decide +kernel) (by decide), ?_⟩
  refine List.forall_mem_cons.2 ⟨s_goto (off := -40) (by decide +kernel) (by decide), ?_⟩
  refine List.forall_mem_cons.2 ⟨s_iconst (k := 1) (by decide +kernel) (by decide +kernel), ?_⟩
  refine List.forall_mem_cons.2 ⟨s_ireturn (ty := .boolean) (by decide +kernel) rfl, ?_⟩
  exact fun _ h => absurd h List.not_mem_nil
def q_k49 : List (Nat × xO) := q_k49_0
theorem q_s49 (l : Launch) (s0 : State) : ∀ q ∈ q_k49, x_Sim (x_K s0) none l q_y49 q_c49 5 (some .boolean) q_w49 q.1 q.2 := q_s49_0 l s0
/-- ProofDesk$Graph.copy(IILProofDesk$Form;)Z -/
def q_k50_0 : List (Nat × xO) := [(0, x_ldi 1 1), (1, x_sti 3 4), (3, x_ldi 5 4), (5, x_ldi 6 2), (6, x_st (x_icge 72 9)), (9, x_ldi 11 4), (11, x_lda 12 0), (12, x_gf 15 5 7), (15, x_st (x_icge 72 18)), (18, x_lda 19 0), (19, x_gf 22 5 0), (22, x_ldi 24 4), (24, x_ald 25 0), (25, x_cl_ 28 2 1), (28, x_st (x_ifeq 46 31)), (31, x_lda 32 0), (32, x_lda 33 0), (33, x_gf 36 5 2), (36, x_ldi 38 4), (38, x_ald 39 0), (39, x_lda 40 3), (40, x_cv 43 51 3 5), (43, x_st (x_goto 57)), (46, x_lda 47 3), (47, x_lda 48 0), (48, x_gf 51 5 0), (51, x_ldi 53 4), (53, x_ald 54 0), (54, x_cv 57 16 2 4), (57, x_sti 59 5), (59, x_ldi 61 5), (61, x_st (x_ifne 66 64)), (64, x_st (x_push 65 (.int (0)))), (65, x_ri (.boolean)), (66, x_iinc 69 4 (1)), (69, x_st (x_goto 3)), (72, x_st (x_push 73 (.int (1)))), (73, x_ri (.boolean))]
set_option maxRecDepth 100000 in
set_option maxHeartbeats 4000000 in
theorem q_s50_0 (l : Launch) (s0 : State) : ∀ q ∈ q_k50_0, x_Sim (x_K s0) none l q_y50 q_c50 6 (some .boolean) q_w50 q.1 q.2 := by
  unfold q_k50_0
  refine List.forall_mem_cons.2 ⟨s_iload_n (k := 1) (by decide +kernel) rfl, ?_⟩
  refine List.forall_mem_cons.2 ⟨s_istore (by decide +kernel) (by decide), ?_⟩
  refine List.forall_mem_cons.2 ⟨s_iload (by decide +kernel), ?_⟩
  refine List.forall_mem_cons.2 ⟨s_iload_n (k := 2) (by decide +kernel) rfl, ?_⟩
  refine List.forall_mem_cons.2 ⟨s_icmp_ge (off := 66) (by decide +kernel) (by decide), ?_⟩
  refine List.forall_mem_cons.2 ⟨s_iload (by decide +kernel), ?_⟩
  refine List.forall_mem_cons.2 ⟨s_aload_n (k := 0) (by decide +kernel) rfl, ?_⟩
  refine List.forall_mem_cons.2 ⟨s_getfield (C := q_n5) (T := q_T5) (N := 9) (idx := 34) (ref := "ProofDesk$Graph") (by decide +kernel) rfl q_in5 (by decide) (x_up mw_313) rfl, ?_⟩
  refine List.forall_mem_cons.2 ⟨s_icmp_ge (off := 57) (by decide +kernel) (by decide), ?_⟩
  refine List.forall_mem_cons.2 ⟨s_aload_n (k := 0) (by decide +kernel) rfl, ?_⟩
  refine List.forall_mem_cons.2 ⟨s_getfield (C := q_n5) (T := q_T5) (N := 9) (idx := 11) (ref := "ProofDesk$Graph") (by decide +kernel) rfl q_in5 (by decide) (x_up mw_306) rfl, ?_⟩
  refine List.forall_mem_cons.2 ⟨s_iload (by decide +kernel), ?_⟩
  refine List.forall_mem_cons.2 ⟨s_iald (by decide +kernel) rfl, ?_⟩
  refine List.forall_mem_cons.2 ⟨s_invokestatic (idx := 52) (M := 2) (ym := q_y2) (wm := q_w2) (by decide +kernel) rfl rfl (x_gdS mw_324 mw_174 mw_175 mw_172) rfl (by decide +kernel) (by decide), ?_⟩
  refine List.forall_mem_cons.2 ⟨s_ifeq (off := 18) (by decide +kernel) (by decide), ?_⟩
  refine List.forall_mem_cons.2 ⟨s_aload_n (k := 0) (by decide +kernel) rfl, ?_⟩
  refine List.forall_mem_cons.2 ⟨s_aload_n (k := 0) (by decide +kernel) rfl, ?_⟩
  refine List.forall_mem_cons.2 ⟨s_getfield (C := q_n5) (T := q_T5) (N := 9) (idx := 18) (ref := "ProofDesk$Graph") (by decide +kernel) rfl q_in5 (by decide) (x_up mw_308) rfl, ?_⟩
  refine List.forall_mem_cons.2 ⟨s_iload (by decide +kernel), ?_⟩
  refine List.forall_mem_cons.2 ⟨s_iald (by decide +kernel) rfl, ?_⟩
  refine List.forall_mem_cons.2 ⟨s_aload_n (k := 3) (by decide +kernel) rfl, ?_⟩
  refine List.forall_mem_cons.2 ⟨s_invokevirtual (idx := 94) (M := 51) (k := 2) (ci := 5) (C := q_n5) (T := q_T5) (N := 9) (ym := q_y51) (wm := q_w51) (by decide +kernel) rfl rfl rfl (x_gdV mw_357 mw_358 mw_359 mw_321 mw_356) rfl (by decide +kernel) (by decide), ?_⟩
  refine List.forall_mem_cons.2 ⟨s_goto (off := 14) (by decide +kernel) (by decide), ?_⟩
  refine List.forall_mem_cons.2 ⟨s_aload_n (k := 3) (by decide +kernel) rfl, ?_⟩
  refine List.forall_mem_cons.2 ⟨s_aload_n (k := 0) (by decide +kernel) rfl, ?_⟩
  refine List.forall_mem_cons.2 ⟨s_getfield (C := q_n5) (T := q_T5) (N := 9) (idx := 11) (ref := "ProofDesk$Graph") (by decide +kernel) rfl q_in5 (by decide) (x_up mw_306) rfl, ?_⟩
  refine List.forall_mem_cons.2 ⟨s_iload (by decide +kernel), ?_⟩
  refine List.forall_mem_cons.2 ⟨s_iald (by decide +kernel) rfl, ?_⟩
  refine List.forall_mem_cons.2 ⟨s_invokevirtual (idx := 98) (M := 16) (k := 1) (ci := 4) (C := q_n4) (T := q_T4) (N := 6) (ym := q_y16) (wm := q_w16) (by decide +kernel) rfl rfl rfl (x_gdV mw_360 mw_268 mw_269 mw_203 mw_266) rfl (by decide +kernel) (by decide), ?_⟩
  refine List.forall_mem_cons.2 ⟨s_istore (by decide +kernel) (by decide), ?_⟩
  refine List.forall_mem_cons.2 ⟨s_iload (by decide +kernel), ?_⟩
  refine List.forall_mem_cons.2 ⟨s_ifne (off := 5) (by decide +kernel) (by decide), ?_⟩
  refine List.forall_mem_cons.2 ⟨s_iconst (k := 0) (by decide +kernel) (by decide +kernel), ?_⟩
  refine List.forall_mem_cons.2 ⟨s_ireturn (ty := .boolean) (by decide +kernel) rfl, ?_⟩
  refine List.forall_mem_cons.2 ⟨s_iinc (k := 1) (by decide +kernel) (by decide +kernel) (by decide), ?_⟩
  refine List.forall_mem_cons.2 ⟨s_goto (off := -66) (by decide +kernel) (by decide), ?_⟩
  refine List.forall_mem_cons.2 ⟨s_iconst (k := 1) (by decide +kernel) (by decide +kernel), ?_⟩
  refine List.forall_mem_cons.2 ⟨s_ireturn (ty := .boolean) (by decide +kernel) rfl, ?_⟩
  exact fun _ h => absurd h List.not_mem_nil
def q_k50 : List (Nat × xO) := q_k50_0
theorem q_s50 (l : Launch) (s0 : State) : ∀ q ∈ q_k50, x_Sim (x_K s0) none l q_y50 q_c50 6 (some .boolean) q_w50 q.1 q.2 := q_s50_0 l s0
/-- ProofDesk$Graph.copyTerm(ILProofDesk$Form;)Z -/
def q_k51_0 : List (Nat × xO) := [(0, x_lda 1 0), (1, x_gf 4 5 5), (4, x_st (x_push 5 (.int (0)))), (5, x_ldi 6 1), (6, x_ast 7 0 (fun x => x)), (7, x_lda 8 0), (8, x_st (x_push 9 (.int (1)))), (9, x_pf 12 5 8 (.int)), (12, x_st (x_push 13 (.int (0)))), (13, x_sti 14 3), (14, x_ldi 15 3), (15, x_st (x_push 17 (.int (40)))), (17, x_st (x_icgt 191 20)), (20, x_lda 21 0), (21, x_gf 24 5 8), (24, x_st (x_ifle 191 27)), (27, x_lda 28 0), (28, x_st (x_dup 29)), (29, x_gf 32 5 8), (32, x_st (x_push 33 (.int (1)))), (33, x_st (x_bin 34 (fun a b => a - b))), (34, x_pf 37 5 8 (.int)), (37, x_lda 38 0), (38, x_gf 41 5 2), (41, x_lda 42 0), (42, x_gf 45 5 5), (45, x_lda 46 0), (46, x_gf 49 5 8), (49, x_ald 50 0), (50, x_ald 51 0), (51, x_sti 53 4), (53, x_lda 54 0), (54, x_gf 57 5 0), (57, x_ldi 59 4), (59, x_ald 60 0), (60, x_cl_ 63 5 1), (63, x_sti 65 5), (65, x_lda 66 0), (66, x_gf 69 5 0), (69, x_ldi 71 4)]
set_option maxRecDepth 100000 in
set_option maxHeartbeats 4000000 in
theorem q_s51_0 (l : Launch) (s0 : State) : ∀ q ∈ q_k51_0, x_Sim (x_K s0) none l q_y51 q_c51 9 (some .boolean) q_w51 q.1 q.2 := by
  unfold q_k51_0
  refine List.forall_mem_cons.2 ⟨s_aload_n (k := 0) (by decide +kernel) rfl, ?_⟩
  refine List.forall_mem_cons.2 ⟨s_getfield (C := q_n5) (T := q_T5) (N := 9) (idx := 28) (ref := "ProofDesk$Graph") (by decide +kernel) rfl q_in5 (by decide) (x_up mw_311) rfl, ?_⟩
  refine List.forall_mem_cons.2 ⟨s_iconst (k := 0) (by decide +kernel) (by decide +kernel), ?_⟩
  refine List.forall_mem_cons.2 ⟨s_iload_n (k := 1) (by decide +kernel) rfl, ?_⟩
  refine List.forall_mem_cons.2 ⟨s_iast (by decide +kernel) rfl, ?_⟩
  refine List.forall_mem_cons.2 ⟨s_aload_n (k := 0) (by decide +kernel) rfl, ?_⟩
  refine List.forall_mem_cons.2 ⟨s_iconst (k := 1) (by decide +kernel) (by decide +kernel), ?_⟩
  refine List.forall_mem_cons.2 ⟨s_putfield (C := q_n5) (T := q_T5) (N := 9) (idx := 71) (ref := "ProofDesk$Graph") q_t5 (by decide +kernel) rfl q_in5 q_ty5 q_nm5 (by decide) (x_up mw_331) rfl rfl (by decide +kernel), ?_⟩
  refine List.forall_mem_cons.2 ⟨s_iconst (k := 0) (by decide +kernel) (by decide +kernel), ?_⟩
  refine List.forall_mem_cons.2 ⟨s_istore_n (k := 3) (by decide +kernel) rfl (by decide), ?_⟩
  refine List.forall_mem_cons.2 ⟨s_iload_n (k := 3) (by decide +kernel) rfl, ?_⟩
  refine List.forall_mem_cons.2 ⟨s_bipush (k := 40) (by decide +kernel) (by decide +kernel), ?_⟩
  refine List.forall_mem_cons.2 ⟨s_icmp_gt (off := 174) (by decide +kernel) (by decide), ?_⟩
  refine List.forall_mem_cons.2 ⟨s_aload_n (k := 0) (by decide +kernel) rfl, ?_⟩
  refine List.forall_mem_cons.2 ⟨s_getfield (C := q_n5) (T := q_T5) (N := 9) (idx := 71) (ref := "ProofDesk$Graph") (by decide +kernel) rfl q_in5 (by decide) (x_up mw_331) rfl, ?_⟩
  refine List.forall_mem_cons.2 ⟨s_ifle (off := 167) (by decide +kernel) (by decide), ?_⟩
  refine List.forall_mem_cons.2 ⟨s_aload_n (k := 0) (by decide +kernel) rfl, ?_⟩
  refine List.forall_mem_cons.2 ⟨s_dup (by decide +kernel), ?_⟩
  refine List.forall_mem_cons.2 ⟨s_getfield (C := q_n5) (T := q_T5) (N := 9) (idx := 71) (ref := "ProofDesk$Graph") (by decide +kernel) rfl q_in5 (by decide) (x_up mw_331) rfl, ?_⟩
  refine List.forall_mem_cons.2 ⟨s_iconst (k := 1) (by decide +kernel) (by decide +kernel), ?_⟩
  refine List.forall_mem_cons.2 ⟨s_isub (by decide +kernel), ?_⟩
  refine List.forall_mem_cons.2 ⟨s_putfield (C := q_n5) (T := q_T5) (N := 9) (idx := 71) (ref := "ProofDesk$Graph") q_t5 (by decide +kernel) rfl q_in5 q_ty5 q_nm5 (by decide) (x_up mw_331) rfl rfl (by decide +kernel), ?_⟩
  refine List.forall_mem_cons.2 ⟨s_aload_n (k := 0) (by decide +kernel) rfl, ?_⟩
  refine List.forall_mem_cons.2 ⟨s_getfield (C := q_n5) (T := q_T5) (N := 9) (idx := 18) (ref := "ProofDesk$Graph") (by decide +kernel) rfl q_in5 (by decide) (x_up mw_308) rfl, ?_⟩
  refine List.forall_mem_cons.2 ⟨s_aload_n (k := 0) (by decide +kernel) rfl, ?_⟩
  refine List.forall_mem_cons.2 ⟨s_getfield (C := q_n5) (T := q_T5) (N := 9) (idx := 28) (ref := "ProofDesk$Graph") (by decide +kernel) rfl q_in5 (by decide) (x_up mw_311) rfl, ?_⟩
  refine List.forall_mem_cons.2 ⟨s_aload_n (k := 0) (by decide +kernel) rfl, ?_⟩
  refine List.forall_mem_cons.2 ⟨s_getfield (C := q_n5) (T := q_T5) (N := 9) (idx := 71) (ref := "ProofDesk$Graph") (by decide +kernel) rfl q_in5 (by decide) (x_up mw_331) rfl, ?_⟩
  refine List.forall_mem_cons.2 ⟨s_iald (by decide +kernel) rfl, ?_⟩
  refine List.forall_mem_cons.2 ⟨s_iald (by decide +kernel) rfl, ?_⟩
  refine List.forall_mem_cons.2 ⟨s_istore (by decide +kernel) (by decide), ?_⟩
  refine List.forall_mem_cons.2 ⟨s_aload_n (k := 0) (by decide +kernel) rfl, ?_⟩
  refine List.forall_mem_cons.2 ⟨s_getfield (C := q_n5) (T := q_T5) (N := 9) (idx := 11) (ref := "ProofDesk$Graph") (by decide +kernel) rfl q_in5 (by decide) (x_up mw_306) rfl, ?_⟩
  refine List.forall_mem_cons.2 ⟨s_iload (by decide +kernel), ?_⟩
  refine List.forall_mem_cons.2 ⟨s_iald (by decide +kernel) rfl, ?_⟩
  refine List.forall_mem_cons.2 ⟨s_invokestatic (idx := 68) (M := 5) (ym := q_y5) (wm := q_w5) (by decide +kernel) rfl rfl (x_gdS mw_330 mw_216 mw_175 mw_214) rfl (by decide +kernel) (by decide), ?_⟩
  refine List.forall_mem_cons.2 ⟨s_istore (by decide +kernel) (by decide), ?_⟩
  refine List.forall_mem_cons.2 ⟨s_aload_n (k := 0) (by decide +kernel) rfl, ?_⟩
  refine List.forall_mem_cons.2 ⟨s_getfield (C := q_n5) (T := q_T5) (N := 9) (idx := 11) (ref := "ProofDesk$Graph") (by decide +kernel) rfl q_in5 (by decide) (x_up mw_306) rfl, ?_⟩
  refine List.forall_mem_cons.2 ⟨s_iload (by decide +kernel), ?_⟩
  exact fun _ h => absurd h List.not_mem_nil
def q_k51_1 : List (Nat × xO) := [(71, x_ald 72 0), (72, x_cl_ 75 2 1), (75, x_st (x_ifeq 86 78)), (78, x_ldi 80 4), (80, x_cl_ 83 1 1), (83, x_st (x_goto 93)), (86, x_lda 87 0), (87, x_gf 90 5 0), (90, x_ldi 92 4), (92, x_ald 93 0), (93, x_sti 95 6), (95, x_lda 96 2), (96, x_ldi 98 6), (98, x_cv 101 16 2 4), (101, x_st (x_ifeq 117 104)), (104, x_lda 105 0), (105, x_gf 108 5 8), (108, x_ldi 110 5), (110, x_st (x_bin 111 (fun a b => a + b))), (111, x_st (x_push 114 (.int (241)))), (114, x_st (x_icle 119 117)), (117, x_st (x_push 118 (.int (0)))), (118, x_ri (.boolean)), (119, x_ldi 121 4), (121, x_st (x_push 122 (.int (1)))), (122, x_st (x_bin 123 (fun a b => a + b))), (123, x_sti 125 7), (125, x_ldi 127 5), (127, x_st (x_push 128 (.int (1)))), (128, x_st (x_bin 129 (fun a b => a - b))), (129, x_sti 131 8), (131, x_ldi 133 8), (133, x_st (x_iflt 174 136)), (136, x_ldi 138 7), (138, x_lda 139 0), (139, x_gf 142 5 7), (142, x_st (x_icge 174 145)), (145, x_lda 146 0), (146, x_gf 149 5 5), (149, x_lda 150 0)]
set_option maxRecDepth 100000 in
set_option maxHeartbeats 4000000 in
theorem q_s51_1 (l : Launch) (s0 : State) : ∀ q ∈ q_k51_1, x_Sim (x_K s0) none l q_y51 q_c51 9 (some .boolean) q_w51 q.1 q.2 := by
  unfold q_k51_1
  refine List.forall_mem_cons.2 ⟨s_iald (by decide +kernel) rfl, ?_⟩
  refine List.forall_mem_cons.2 ⟨s_invokestatic (idx := 52) (M := 2) (ym := q_y2) (wm := q_w2) (by decide +kernel) rfl rfl (x_gdS mw_324 mw_174 mw_175 mw_172) rfl (by decide +kernel) (by decide), ?_⟩
  refine List.forall_mem_cons.2 ⟨s_ifeq (off := 11) (by decide +kernel) (by decide), ?_⟩
  refine List.forall_mem_cons.2 ⟨s_iload (by decide +kernel), ?_⟩
  refine List.forall_mem_cons.2 ⟨s_invokestatic (idx := 101) (M := 1) (ym := q_y1) (wm := q_w1) (by decide +kernel) rfl rfl (x_gdS mw_361 mw_223 mw_175 mw_221) rfl (by decide +kernel) (by decide), ?_⟩
  refine List.forall_mem_cons.2 ⟨s_goto (off := 10) (by decide +kernel) (by decide), ?_⟩
  refine List.forall_mem_cons.2 ⟨s_aload_n (k := 0) (by decide +kernel) rfl, ?_⟩
  refine List.forall_mem_cons.2 ⟨s_getfield (C := q_n5) (T := q_T5) (N := 9) (idx := 11) (ref := "ProofDesk$Graph") (by decide +kernel) rfl q_in5 (by decide) (x_up mw_306) rfl, ?_⟩
  refine List.forall_mem_cons.2 ⟨s_iload (by decide +kernel), ?_⟩
  refine List.forall_mem_cons.2 ⟨s_iald (by decide +kernel) rfl, ?_⟩
  refine List.forall_mem_cons.2 ⟨s_istore (by decide +kernel) (by decide), ?_⟩
  refine List.forall_mem_cons.2 ⟨s_aload_n (k := 2) (by decide +kernel) rfl, ?_⟩
  refine List.forall_mem_cons.2 ⟨s_iload (by decide +kernel), ?_⟩
  refine List.forall_mem_cons.2 ⟨s_invokevirtual (idx := 98) (M := 16) (k := 1) (ci := 4) (C := q_n4) (T := q_T4) (N := 6) (ym := q_y16) (wm := q_w16) (by decide +kernel) rfl rfl rfl (x_gdV mw_360 mw_268 mw_269 mw_203 mw_266) rfl (by decide +kernel) (by decide), ?_⟩
  refine List.forall_mem_cons.2 ⟨s_ifeq (off := 16) (by decide +kernel) (by decide), ?_⟩
  refine List.forall_mem_cons.2 ⟨s_aload_n (k := 0) (by decide +kernel) rfl, ?_⟩
  refine List.forall_mem_cons.2 ⟨s_getfield (C := q_n5) (T := q_T5) (N := 9) (idx := 71) (ref := "ProofDesk$Graph") (by decide +kernel) rfl q_in5 (by decide) (x_up mw_331) rfl, ?_⟩
  refine List.forall_mem_cons.2 ⟨s_iload (by decide +kernel), ?_⟩
  refine List.forall_mem_cons.2 ⟨s_iadd (by decide +kernel), ?_⟩
  refine List.forall_mem_cons.2 ⟨s_sipush (k := 241) (by decide +kernel) (by decide +kernel), ?_⟩
  refine List.forall_mem_cons.2 ⟨s_icmp_le (off := 5) (by decide +kernel) (by decide), ?_⟩
  refine List.forall_mem_cons.2 ⟨s_iconst (k := 0) (by decide +kernel) (by decide +kernel), ?_⟩
  refine List.forall_mem_cons.2 ⟨s_ireturn (ty := .boolean) (by decide +kernel) rfl, ?_⟩
  refine List.forall_mem_cons.2 ⟨s_iload (by decide +kernel), ?_⟩
  refine List.forall_mem_cons.2 ⟨s_iconst (k := 1) (by decide +kernel) (by decide +kernel), ?_⟩
  refine List.forall_mem_cons.2 ⟨s_iadd (by decide +kernel), ?_⟩
  refine List.forall_mem_cons.2 ⟨s_istore (by decide +kernel) (by decide), ?_⟩
  refine List.forall_mem_cons.2 ⟨s_iload (by decide +kernel), ?_⟩
  refine List.forall_mem_cons.2 ⟨s_iconst (k := 1) (by decide +kernel) (by decide +kernel), ?_⟩
  refine List.forall_mem_cons.2 ⟨s_isub (by decide +kernel), ?_⟩
  refine List.forall_mem_cons.2 ⟨s_istore (by decide +kernel) (by decide), ?_⟩
  refine List.forall_mem_cons.2 ⟨s_iload (by decide +kernel), ?_⟩
  refine List.forall_mem_cons.2 ⟨s_iflt (off := 41) (by decide +kernel) (by decide), ?_⟩
  refine List.forall_mem_cons.2 ⟨s_iload (by decide +kernel), ?_⟩
  refine List.forall_mem_cons.2 ⟨s_aload_n (k := 0) (by decide +kernel) rfl, ?_⟩
  refine List.forall_mem_cons.2 ⟨s_getfield (C := q_n5) (T := q_T5) (N := 9) (idx := 34) (ref := "ProofDesk$Graph") (by decide +kernel) rfl q_in5 (by decide) (x_up mw_313) rfl, ?_⟩
  refine List.forall_mem_cons.2 ⟨s_icmp_ge (off := 32) (by decide +kernel) (by decide), ?_⟩
  refine List.forall_mem_cons.2 ⟨s_aload_n (k := 0) (by decide +kernel) rfl, ?_⟩
  refine List.forall_mem_cons.2 ⟨s_getfield (C := q_n5) (T := q_T5) (N := 9) (idx := 28) (ref := "ProofDesk$Graph") (by decide +kernel) rfl q_in5 (by decide) (x_up mw_311) rfl, ?_⟩
  refine List.forall_mem_cons.2 ⟨s_aload_n (k := 0) (by decide +kernel) rfl, ?_⟩
  exact fun _ h => absurd h List.not_mem_nil
def q_k51_2 : List (Nat × xO) := [(150, x_gf 153 5 8), (153, x_ldi 155 8), (155, x_st (x_bin 156 (fun a b => a + b))), (156, x_ldi 158 7), (158, x_ast 159 0 (fun x => x)), (159, x_lda 160 0), (160, x_gf 163 5 1), (163, x_ldi 165 7), (165, x_ald 166 0), (166, x_sti 168 7), (168, x_iinc 171 8 (-1)), (171, x_st (x_goto 131)), (174, x_lda 175 0), (175, x_st (x_dup 176)), (176, x_gf 179 5 8), (179, x_ldi 181 5), (181, x_st (x_bin 182 (fun a b => a + b))), (182, x_pf 185 5 8 (.int)), (185, x_iinc 188 3 (1)), (188, x_st (x_goto 14)), (191, x_lda 192 0), (192, x_gf 195 5 8), (195, x_st (x_ifne 202 198)), (198, x_st (x_push 199 (.int (1)))), (199, x_st (x_goto 203)), (202, x_st (x_push 203 (.int (0)))), (203, x_ri (.boolean))]
set_option maxRecDepth 100000 in
set_option maxHeartbeats 4000000 in
theorem q_s51_2 (l : Launch) (s0 : State) : ∀ q ∈ q_k51_2, x_Sim (x_K s0) none l q_y51 q_c51 9 (some .boolean) q_w51 q.1 q.2 := by
  unfold q_k51_2
  refine List.forall_mem_cons.2 ⟨s_getfield (C := q_n5) (T := q_T5) (N := 9) (idx := 71) (ref := "ProofDesk$Graph") (by decide +kernel) rfl q_in5 (by decide) (x_up mw_331) rfl, ?_⟩
  refine List.forall_mem_cons.2 ⟨s_iload (by decide +kernel), ?_⟩
  refine List.forall_mem_cons.2 ⟨s_iadd (by decide +kernel), ?_⟩
  refine List.forall_mem_cons.2 ⟨s_iload (by decide +kernel), ?_⟩
  refine List.forall_mem_cons.2 ⟨s_iast (by decide +kernel) rfl, ?_⟩
  refine List.forall_mem_cons.2 ⟨s_aload_n (k := 0) (by decide +kernel) rfl, ?_⟩
  refine List.forall_mem_cons.2 ⟨s_getfield (C := q_n5) (T := q_T5) (N := 9) (idx := 15) (ref := "ProofDesk$Graph") (by decide +kernel) rfl q_in5 (by decide) (x_up mw_307) rfl, ?_⟩
  refine List.forall_mem_cons.2 ⟨s_iload (by decide +kernel), ?_⟩
  refine List.forall_mem_cons.2 ⟨s_iald (by decide +kernel) rfl, ?_⟩
  refine List.forall_mem_cons.2 ⟨s_istore (by decide +kernel) (by decide), ?_⟩
  refine List.forall_mem_cons.2 ⟨s_iinc (k := -1) (by decide +kernel) (by decide +kernel) (by decide), ?_⟩
  refine List.forall_mem_cons.2 ⟨s_goto (off := -40) (by decide +kernel) (by decide), ?_⟩
  refine List.forall_mem_cons.2 ⟨s_aload_n (k := 0) (by decide +kernel) rfl, ?_⟩
  refine List.forall_mem_cons.2 ⟨s_dup (by decide +kernel), ?_⟩
  refine List.forall_mem_cons.2 ⟨s_getfield (C := q_n5) (T := q_T5) (N := 9) (idx := 71) (ref := "ProofDesk$Graph") (by decide +kernel) rfl q_in5 (by decide) (x_up mw_331) rfl, ?_⟩
  refine List.forall_mem_cons.2 ⟨s_iload (by decide +kernel), ?_⟩
  refine List.forall_mem_cons.2 ⟨s_iadd (by decide +kernel), ?_⟩
  refine List.forall_mem_cons.2 ⟨s_putfield (C := q_n5) (T := q_T5) (N := 9) (idx := 71) (ref := "ProofDesk$Graph") q_t5 (by decide +kernel) rfl q_in5 q_ty5 q_nm5 (by decide) (x_up mw_331) rfl rfl (by decide +kernel), ?_⟩
  refine List.forall_mem_cons.2 ⟨s_iinc (k := 1) (by decide +kernel) (by decide +kernel) (by decide), ?_⟩
  refine List.forall_mem_cons.2 ⟨s_goto (off := -174) (by decide +kernel) (by decide), ?_⟩
  refine List.forall_mem_cons.2 ⟨s_aload_n (k := 0) (by decide +kernel) rfl, ?_⟩
  refine List.forall_mem_cons.2 ⟨s_getfield (C := q_n5) (T := q_T5) (N := 9) (idx := 71) (ref := "ProofDesk$Graph") (by decide +kernel) rfl q_in5 (by decide) (x_up mw_331) rfl, ?_⟩
  refine List.forall_mem_cons.2 ⟨s_ifne (off := 7) (by decide +kernel) (by decide), ?_⟩
  refine List.forall_mem_cons.2 ⟨s_iconst (k := 1) (by decide +kernel) (by decide +kernel), ?_⟩
  refine List.forall_mem_cons.2 ⟨s_goto (off := 4) (by decide +kernel) (by decide), ?_⟩
  refine List.forall_mem_cons.2 ⟨s_iconst (k := 0) (by decide +kernel) (by decide +kernel), ?_⟩
  refine List.forall_mem_cons.2 ⟨s_ireturn (ty := .boolean) (by decide +kernel) rfl, ?_⟩
  exact fun _ h => absurd h List.not_mem_nil
def q_k51 : List (Nat × xO) := q_k51_0 ++ q_k51_1 ++ q_k51_2
theorem q_s51 (l : Launch) (s0 : State) : ∀ q ∈ q_k51, x_Sim (x_K s0) none l q_y51 q_c51 9 (some .boolean) q_w51 q.1 q.2 := by
  intro q hq
  simp only [q_k51, List.mem_append] at hq
  rcases hq with (h0 | h1) | h2
  · exact q_s51_0 l s0 q h0
  · exact q_s51_1 l s0 q h1
  · exact q_s51_2 l s0 q h2
/-- ProofDesk$Matcher.<init>()V -/
def q_k52_0 : List (Nat × xO) := [(0, x_lda 1 0), (1, x_st (x_oi 4)), (4, x_lda 5 0), (5, x_st (x_push 7 (.int (26)))), (7, x_na 9 0), (9, x_pf 12 6 0 (.array .int)), (12, x_lda 13 0), (13, x_st (x_push 15 (.int (26)))), (15, x_na 17 0), (17, x_pf 20 6 1 (.array .int)), (20, x_rv)]
set_option maxRecDepth 100000 in
set_option maxHeartbeats 4000000 in
theorem q_s52_0 (l : Launch) (s0 : State) : ∀ q ∈ q_k52_0, x_Sim (x_K s0) none l q_y52 q_c52 1 none q_w52 q.1 q.2 := by
  unfold q_k52_0
  refine List.forall_mem_cons.2 ⟨s_aload_n (k := 0) (by decide +kernel) rfl, ?_⟩
  refine List.forall_mem_cons.2 ⟨s_objInit (idx := 3) (by decide +kernel) (x_up mw_362) (x_up mw_100) (x_up mw_obj), ?_⟩
  refine List.forall_mem_cons.2 ⟨s_aload_n (k := 0) (by decide +kernel) rfl, ?_⟩
  refine List.forall_mem_cons.2 ⟨s_bipush (k := 26) (by decide +kernel) (by decide +kernel), ?_⟩
  refine List.forall_mem_cons.2 ⟨s_newarray (at0 := .int) (ty := .int) (by decide +kernel) rfl (x_up mw_188) rfl (by decide) rfl (fun _ _ h => h), ?_⟩
  refine List.forall_mem_cons.2 ⟨s_putfieldF (C := q_n6) (T := q_T6) (N := 3) (idx := 9) q_t6 (by decide +kernel) rfl q_in6 q_ty6 q_nm6 (by decide) (x_up mw_363) rfl rfl (by decide +kernel) rfl, ?_⟩
  refine List.forall_mem_cons.2 ⟨s_aload_n (k := 0) (by decide +kernel) rfl, ?_⟩
  refine List.forall_mem_cons.2 ⟨s_bipush (k := 26) (by decide +kernel) (by decide +kernel), ?_⟩
  refine List.forall_mem_cons.2 ⟨s_newarray (at0 := .int) (ty := .int) (by decide +kernel) rfl (x_up mw_188) rfl (by decide) rfl (fun _ _ h => h), ?_⟩
  refine List.forall_mem_cons.2 ⟨s_putfieldF (C := q_n6) (T := q_T6) (N := 3) (idx := 15) q_t6 (by decide +kernel) rfl q_in6 q_ty6 q_nm6 (by decide) (x_up mw_364) rfl rfl (by decide +kernel) rfl, ?_⟩
  refine List.forall_mem_cons.2 ⟨s_return (by decide +kernel) rfl, ?_⟩
  exact fun _ h => absurd h List.not_mem_nil
def q_k52 : List (Nat × xO) := q_k52_0
theorem q_s52 (l : Launch) (s0 : State) : ∀ q ∈ q_k52, x_Sim (x_K s0) none l q_y52 q_c52 1 none q_w52 q.1 q.2 := q_s52_0 l s0
/-- ProofDesk$Matcher.canSpecialise(LProofDesk$Form;LProofDesk$Form;)Z -/
def q_k53_0 : List (Nat × xO) := [(0, x_lda 1 0), (1, x_gf 4 6 0), (4, x_st (x_push 5 (.int (-1)))), (5, x_cl_ 8 148 2), (8, x_lda 9 0), (9, x_st (x_push 10 (.int (0)))), (10, x_pf 13 6 2 (.int)), (13, x_lda 14 0), (14, x_lda 15 1), (15, x_st (x_push 16 (.int (0)))), (16, x_lda 17 2), (17, x_cv 20 54 4 6), (20, x_ri (.boolean))]
set_option maxRecDepth 100000 in
set_option maxHeartbeats 4000000 in
theorem q_s53_0 (l : Launch) (s0 : State) : ∀ q ∈ q_k53_0, x_Sim (x_K s0) none l q_y53 q_c53 3 (some .boolean) q_w53 q.1 q.2 := by
  unfold q_k53_0
  refine List.forall_mem_cons.2 ⟨s_aload_n (k := 0) (by decide +kernel) rfl, ?_⟩
  refine List.forall_mem_cons.2 ⟨s_getfield (C := q_n6) (T := q_T6) (N := 3) (idx := 9) (ref := "ProofDesk$Matcher") (by decide +kernel) rfl q_in6 (by decide) (x_up mw_363) rfl, ?_⟩
  refine List.forall_mem_cons.2 ⟨s_iconst (k := -1) (by decide +kernel) (by decide +kernel), ?_⟩
  refine List.forall_mem_cons.2 ⟨s_invokestatic (idx := 18) (M := 148) (ym := q_y148) (wm := q_w148) (by decide +kernel) rfl rfl (x_gdS mw_365 mw_316 mw_197 mw_314) rfl (by decide +kernel) (by decide), ?_⟩
  refine List.forall_mem_cons.2 ⟨s_aload_n (k := 0) (by decide +kernel) rfl, ?_⟩
  refine List.forall_mem_cons.2 ⟨s_iconst (k := 0) (by decide +kernel) (by decide +kernel), ?_⟩
  refine List.forall_mem_cons.2 ⟨s_putfield (C := q_n6) (T := q_T6) (N := 3) (idx := 24) (ref := "ProofDesk$Matcher") q_t6 (by decide +kernel) rfl q_in6 q_ty6 q_nm6 (by decide) (x_up mw_366) rfl rfl (by decide +kernel), ?_⟩
  refine List.forall_mem_cons.2 ⟨s_aload_n (k := 0) (by decide +kernel) rfl, ?_⟩
  refine List.forall_mem_cons.2 ⟨s_aload_n (k := 1) (by decide +kernel) rfl, ?_⟩
  refine List.forall_mem_cons.2 ⟨s_iconst (k := 0) (by decide +kernel) (by decide +kernel), ?_⟩
  refine List.forall_mem_cons.2 ⟨s_aload_n (k := 2) (by decide +kernel) rfl, ?_⟩
  refine List.forall_mem_cons.2 ⟨s_invokevirtual (idx := 28) (M := 54) (k := 3) (ci := 6) (C := q_n6) (T := q_T6) (N := 3) (ym := q_y54) (wm := q_w54) (by decide +kernel) rfl rfl rfl (x_gdV mw_368 mw_369 mw_370 mw_371 mw_367) rfl (by decide +kernel) (by decide), ?_⟩
  refine List.forall_mem_cons.2 ⟨s_ireturn (ty := .boolean) (by decide +kernel) rfl, ?_⟩
  exact fun _ h => absurd h List.not_mem_nil
def q_k53 : List (Nat × xO) := q_k53_0
theorem q_s53 (l : Launch) (s0 : State) : ∀ q ∈ q_k53, x_Sim (x_K s0) none l q_y53 q_c53 3 (some .boolean) q_w53 q.1 q.2 := q_s53_0 l s0
/-- ProofDesk$Matcher.matchFrom(LProofDesk$Form;ILProofDesk$Form;)Z -/
def q_k54_0 : List (Nat × xO) := [(0, x_ldi 1 2), (1, x_lda 2 1), (2, x_gf 5 4 3), (5, x_st (x_icge 14 8)), (8, x_ldi 9 2), (9, x_st (x_push 11 (.int (6)))), (11, x_st (x_iclt 16 14)), (14, x_st (x_push 15 (.int (1)))), (15, x_ri (.boolean)), (16, x_lda 17 0), (17, x_gf 20 6 2), (20, x_sti 22 4), (22, x_st (x_push 23 (.int (0)))), (23, x_sti 25 5), (25, x_ldi 27 5), (27, x_lda 28 3), (28, x_gf 31 4 3), (31, x_st (x_icge 72 34)), (34, x_lda 35 0), (35, x_lda 36 1), (36, x_ldi 37 2), (37, x_lda 38 3), (38, x_ldi 40 5), (40, x_cv 43 55 5 6), (43, x_st (x_ifeq 60 46)), (46, x_lda 47 0), (47, x_lda 48 1), (48, x_ldi 49 2), (49, x_st (x_push 50 (.int (1)))), (50, x_st (x_bin 51 (fun a b => a + b))), (51, x_lda 52 3), (52, x_cv 55 54 4 6), (55, x_st (x_ifeq 60 58)), (58, x_st (x_push 59 (.int (1)))), (59, x_ri (.boolean)), (60, x_lda 61 0), (61, x_ldi 63 4), (63, x_cv 66 57 2 6), (66, x_iinc 69 5 (1)), (69, x_st (x_goto 25))]
set_option maxRecDepth 100000 in
set_option maxHeartbeats 4000000 in
theorem q_s54_0 (l : Launch) (s0 : State) : ∀ q ∈ q_k54_0, x_Sim (x_K s0) none l q_y54 q_c54 6 (some .boolean) q_w54 q.1 q.2 := by
  unfold q_k54_0
  refine List.forall_mem_cons.2 ⟨s_iload_n (k := 2) (by decide +kernel) rfl, ?_⟩
  refine List.forall_mem_cons.2 ⟨s_aload_n (k := 1) (by decide +kernel) rfl, ?_⟩
  refine List.forall_mem_cons.2 ⟨s_getfield (C := q_n4) (T := q_T4) (N := 6) (idx := 32) (ref := "ProofDesk$Form") (by decide +kernel) rfl q_in4 (by decide) (x_up mw_372) rfl, ?_⟩
  refine List.forall_mem_cons.2 ⟨s_icmp_ge (off := 9) (by decide +kernel) (by decide), ?_⟩
  refine List.forall_mem_cons.2 ⟨s_iload_n (k := 2) (by decide +kernel) rfl, ?_⟩
  refine List.forall_mem_cons.2 ⟨s_bipush (k := 6) (by decide +kernel) (by decide +kernel), ?_⟩
  refine List.forall_mem_cons.2 ⟨s_icmp_lt (off := 5) (by decide +kernel) (by decide), ?_⟩
  refine List.forall_mem_cons.2 ⟨s_iconst (k := 1) (by decide +kernel) (by decide +kernel), ?_⟩
  refine List.forall_mem_cons.2 ⟨s_ireturn (ty := .boolean) (by decide +kernel) rfl, ?_⟩
  refine List.forall_mem_cons.2 ⟨s_aload_n (k := 0) (by decide +kernel) rfl, ?_⟩
  refine List.forall_mem_cons.2 ⟨s_getfield (C := q_n6) (T := q_T6) (N := 3) (idx := 24) (ref := "ProofDesk$Matcher") (by decide +kernel) rfl q_in6 (by decide) (x_up mw_366) rfl, ?_⟩
  refine List.forall_mem_cons.2 ⟨s_istore (by decide +kernel) (by decide), ?_⟩
  refine List.forall_mem_cons.2 ⟨s_iconst (k := 0) (by decide +kernel) (by decide +kernel), ?_⟩
  refine List.forall_mem_cons.2 ⟨s_istore (by decide +kernel) (by decide), ?_⟩
  refine List.forall_mem_cons.2 ⟨s_iload (by decide +kernel), ?_⟩
  refine List.forall_mem_cons.2 ⟨s_aload_n (k := 3) (by decide +kernel) rfl, ?_⟩
  refine List.forall_mem_cons.2 ⟨s_getfield (C := q_n4) (T := q_T4) (N := 6) (idx := 32) (ref := "ProofDesk$Form") (by decide +kernel) rfl q_in4 (by decide) (x_up mw_372) rfl, ?_⟩
  refine List.forall_mem_cons.2 ⟨s_icmp_ge (off := 41) (by decide +kernel) (by decide), ?_⟩
  refine List.forall_mem_cons.2 ⟨s_aload_n (k := 0) (by decide +kernel) rfl, ?_⟩
  refine List.forall_mem_cons.2 ⟨s_aload_n (k := 1) (by decide +kernel) rfl, ?_⟩
  refine List.forall_mem_cons.2 ⟨s_iload_n (k := 2) (by decide +kernel) rfl, ?_⟩
  refine List.forall_mem_cons.2 ⟨s_aload_n (k := 3) (by decide +kernel) rfl, ?_⟩
  refine List.forall_mem_cons.2 ⟨s_iload (by decide +kernel), ?_⟩
  refine List.forall_mem_cons.2 ⟨s_invokevirtual (idx := 37) (M := 55) (k := 4) (ci := 6) (C := q_n6) (T := q_T6) (N := 3) (ym := q_y55) (wm := q_w55) (by decide +kernel) rfl rfl rfl (x_gdV mw_374 mw_375 mw_376 mw_371 mw_373) rfl (by decide +kernel) (by decide), ?_⟩
  refine List.forall_mem_cons.2 ⟨s_ifeq (off := 17) (by decide +kernel) (by decide), ?_⟩
  refine List.forall_mem_cons.2 ⟨s_aload_n (k := 0) (by decide +kernel) rfl, ?_⟩
  refine List.forall_mem_cons.2 ⟨s_aload_n (k := 1) (by decide +kernel) rfl, ?_⟩
  refine List.forall_mem_cons.2 ⟨s_iload_n (k := 2) (by decide +kernel) rfl, ?_⟩
  refine List.forall_mem_cons.2 ⟨s_iconst (k := 1) (by decide +kernel) (by decide +kernel), ?_⟩
  refine List.forall_mem_cons.2 ⟨s_iadd (by decide +kernel), ?_⟩
  refine List.forall_mem_cons.2 ⟨s_aload_n (k := 3) (by decide +kernel) rfl, ?_⟩
  refine List.forall_mem_cons.2 ⟨s_invokevirtual (idx := 28) (M := 54) (k := 3) (ci := 6) (C := q_n6) (T := q_T6) (N := 3) (ym := q_y54) (wm := q_w54) (by decide +kernel) rfl rfl rfl (x_gdV mw_368 mw_369 mw_370 mw_371 mw_367) rfl (by decide +kernel) (by decide), ?_⟩
  refine List.forall_mem_cons.2 ⟨s_ifeq (off := 5) (by decide +kernel) (by decide), ?_⟩
  refine List.forall_mem_cons.2 ⟨s_iconst (k := 1) (by decide +kernel) (by decide +kernel), ?_⟩
  refine List.forall_mem_cons.2 ⟨s_ireturn (ty := .boolean) (by decide +kernel) rfl, ?_⟩
  refine List.forall_mem_cons.2 ⟨s_aload_n (k := 0) (by decide +kernel) rfl, ?_⟩
  refine List.forall_mem_cons.2 ⟨s_iload (by decide +kernel), ?_⟩
  refine List.forall_mem_cons.2 ⟨s_invokevirtual (idx := 41) (M := 57) (k := 1) (ci := 6) (C := q_n6) (T := q_T6) (N := 3) (ym := q_y57) (wm := q_w57) (by decide +kernel) rfl rfl rfl (x_gdV mw_378 mw_379 mw_380 mw_371 mw_377) rfl (by decide +kernel) (by decide), ?_⟩
  refine List.forall_mem_cons.2 ⟨s_iinc (k := 1) (by decide +kernel) (by decide +kernel) (by decide), ?_⟩
  refine List.forall_mem_cons.2 ⟨s_goto (off := -44) (by decide +kernel) (by decide), ?_⟩
  exact fun _ h => absurd h List.not_mem_nil
def q_k54_1 : List (Nat × xO) := [(72, x_st (x_push 73 (.int (0)))), (73, x_ri (.boolean))]
set_option maxRecDepth 100000 in
set_option maxHeartbeats 4000000 in
theorem q_s54_1 (l : Launch) (s0 : State) : ∀ q ∈ q_k54_1, x_Sim (x_K s0) none l q_y54 q_c54 6 (some .boolean) q_w54 q.1 q.2 := by
  unfold q_k54_1
  refine List.forall_mem_cons.2 ⟨s_iconst (k := 0) (by decide +kernel) (by decide +kernel), ?_⟩
  refine List.forall_mem_cons.2 ⟨s_ireturn (ty := .boolean) (by decide +kernel) rfl, ?_⟩
  exact fun _ h => absurd h List.not_mem_nil
def q_k54 : List (Nat × xO) := q_k54_0 ++ q_k54_1
theorem q_s54 (l : Launch) (s0 : State) : ∀ q ∈ q_k54, x_Sim (x_K s0) none l q_y54 q_c54 6 (some .boolean) q_w54 q.1 q.2 := by
  intro q hq
  simp only [q_k54, List.mem_append] at hq
  rcases hq with h0 | h1
  · exact q_s54_0 l s0 q h0
  · exact q_s54_1 l s0 q h1
/-- ProofDesk$Matcher.matchLiteral(LProofDesk$Form;ILProofDesk$Form;I)Z -/
def q_k55_0 : List (Nat × xO) := [(0, x_lda 1 1), (1, x_gf 4 4 2), (4, x_ldi 5 2), (5, x_ald 6 1), (6, x_lda 7 3), (7, x_gf 10 4 2), (10, x_ldi 12 4), (12, x_ald 13 1), (13, x_st (x_iceq 18 16)), (16, x_st (x_push 17 (.int (0)))), (17, x_ri (.boolean)), (18, x_lda 19 3), (19, x_ldi 21 4), (21, x_cv 24 11 2 4), (24, x_sti 26 5), (26, x_lda 27 3), (27, x_gf 30 4 1), (30, x_ldi 32 4), (32, x_ald 33 0), (33, x_sti 35 6), (35, x_lda 36 1), (36, x_ldi 37 2), (37, x_cv 40 11 2 4), (40, x_sti 42 7), (42, x_ldi 44 7), (44, x_lda 45 1), (45, x_gf 48 4 1), (48, x_ldi 49 2), (49, x_ald 50 0), (50, x_st (x_icge 145 53)), (53, x_ldi 55 5), (55, x_ldi 57 6), (57, x_st (x_iclt 62 60)), (60, x_st (x_push 61 (.int (0)))), (61, x_ri (.boolean)), (62, x_lda 63 1), (63, x_gf 66 4 0), (66, x_ldi 68 7), (68, x_ald 69 0), (69, x_sti 71 8)]
set_option maxRecDepth 100000 in
set_option maxHeartbeats 4000000 in
theorem q_s55_0 (l : Launch) (s0 : State) : ∀ q ∈ q_k55_0, x_Sim (x_K s0) none l q_y55 q_c55 11 (some .boolean) q_w55 q.1 q.2 := by
  unfold q_k55_0
  refine List.forall_mem_cons.2 ⟨s_aload_n (k := 1) (by decide +kernel) rfl, ?_⟩
  refine List.forall_mem_cons.2 ⟨s_getfield (C := q_n4) (T := q_T4) (N := 6) (idx := 45) (ref := "ProofDesk$Form") (by decide +kernel) rfl q_in4 (by decide) (x_up mw_381) rfl, ?_⟩
  refine List.forall_mem_cons.2 ⟨s_iload_n (k := 2) (by decide +kernel) rfl, ?_⟩
  refine List.forall_mem_cons.2 ⟨s_zald (by decide +kernel) rfl, ?_⟩
  refine List.forall_mem_cons.2 ⟨s_aload_n (k := 3) (by decide +kernel) rfl, ?_⟩
  refine List.forall_mem_cons.2 ⟨s_getfield (C := q_n4) (T := q_T4) (N := 6) (idx := 45) (ref := "ProofDesk$Form") (by decide +kernel) rfl q_in4 (by decide) (x_up mw_381) rfl, ?_⟩
  refine List.forall_mem_cons.2 ⟨s_iload (by decide +kernel), ?_⟩
  refine List.forall_mem_cons.2 ⟨s_zald (by decide +kernel) rfl, ?_⟩
  refine List.forall_mem_cons.2 ⟨s_icmp_eq (off := 5) (by decide +kernel) (by decide), ?_⟩
  refine List.forall_mem_cons.2 ⟨s_iconst (k := 0) (by decide +kernel) (by decide +kernel), ?_⟩
  refine List.forall_mem_cons.2 ⟨s_ireturn (ty := .boolean) (by decide +kernel) rfl, ?_⟩
  refine List.forall_mem_cons.2 ⟨s_aload_n (k := 3) (by decide +kernel) rfl, ?_⟩
  refine List.forall_mem_cons.2 ⟨s_iload (by decide +kernel), ?_⟩
  refine List.forall_mem_cons.2 ⟨s_invokevirtual (idx := 49) (M := 11) (k := 1) (ci := 4) (C := q_n4) (T := q_T4) (N := 6) (ym := q_y11) (wm := q_w11) (by decide +kernel) rfl rfl rfl (x_gdV mw_382 mw_201 mw_202 mw_203 mw_199) rfl (by decide +kernel) (by decide), ?_⟩
  refine List.forall_mem_cons.2 ⟨s_istore (by decide +kernel) (by decide), ?_⟩
  refine List.forall_mem_cons.2 ⟨s_aload_n (k := 3) (by decide +kernel) rfl, ?_⟩
  refine List.forall_mem_cons.2 ⟨s_getfield (C := q_n4) (T := q_T4) (N := 6) (idx := 53) (ref := "ProofDesk$Form") (by decide +kernel) rfl q_in4 (by decide) (x_up mw_383) rfl, ?_⟩
  refine List.forall_mem_cons.2 ⟨s_iload (by decide +kernel), ?_⟩
  refine List.forall_mem_cons.2 ⟨s_iald (by decide +kernel) rfl, ?_⟩
  refine List.forall_mem_cons.2 ⟨s_istore (by decide +kernel) (by decide), ?_⟩
  refine List.forall_mem_cons.2 ⟨s_aload_n (k := 1) (by decide +kernel) rfl, ?_⟩
  refine List.forall_mem_cons.2 ⟨s_iload_n (k := 2) (by decide +kernel) rfl, ?_⟩
  refine List.forall_mem_cons.2 ⟨s_invokevirtual (idx := 49) (M := 11) (k := 1) (ci := 4) (C := q_n4) (T := q_T4) (N := 6) (ym := q_y11) (wm := q_w11) (by decide +kernel) rfl rfl rfl (x_gdV mw_382 mw_201 mw_202 mw_203 mw_199) rfl (by decide +kernel) (by decide), ?_⟩
  refine List.forall_mem_cons.2 ⟨s_istore (by decide +kernel) (by decide), ?_⟩
  refine List.forall_mem_cons.2 ⟨s_iload (by decide +kernel), ?_⟩
  refine List.forall_mem_cons.2 ⟨s_aload_n (k := 1) (by decide +kernel) rfl, ?_⟩
  refine List.forall_mem_cons.2 ⟨s_getfield (C := q_n4) (T := q_T4) (N := 6) (idx := 53) (ref := "ProofDesk$Form") (by decide +kernel) rfl q_in4 (by decide) (x_up mw_383) rfl, ?_⟩
  refine List.forall_mem_cons.2 ⟨s_iload_n (k := 2) (by decide +kernel) rfl, ?_⟩
  refine List.forall_mem_cons.2 ⟨s_iald (by decide +kernel) rfl, ?_⟩
  refine List.forall_mem_cons.2 ⟨s_icmp_ge (off := 95) (by decide +kernel) (by decide), ?_⟩
  refine List.forall_mem_cons.2 ⟨s_iload (by decide +kernel), ?_⟩
  refine List.forall_mem_cons.2 ⟨s_iload (by decide +kernel), ?_⟩
  refine List.forall_mem_cons.2 ⟨s_icmp_lt (off := 5) (by decide +kernel) (by decide), ?_⟩
  refine List.forall_mem_cons.2 ⟨s_iconst (k := 0) (by decide +kernel) (by decide +kernel), ?_⟩
  refine List.forall_mem_cons.2 ⟨s_ireturn (ty := .boolean) (by decide +kernel) rfl, ?_⟩
  refine List.forall_mem_cons.2 ⟨s_aload_n (k := 1) (by decide +kernel) rfl, ?_⟩
  refine List.forall_mem_cons.2 ⟨s_getfield (C := q_n4) (T := q_T4) (N := 6) (idx := 56) (ref := "ProofDesk$Form") (by decide +kernel) rfl q_in4 (by decide) (x_up mw_384) rfl, ?_⟩
  refine List.forall_mem_cons.2 ⟨s_iload (by decide +kernel), ?_⟩
  refine List.forall_mem_cons.2 ⟨s_iald (by decide +kernel) rfl, ?_⟩
  refine List.forall_mem_cons.2 ⟨s_istore (by decide +kernel) (by decide), ?_⟩
  exact fun _ h => absurd h List.not_mem_nil
def q_k55_1 : List (Nat × xO) := [(71, x_ldi 73 5), (73, x_st (x_push 74 (.int (1)))), (74, x_st (x_bin 75 (fun a b => a + b))), (75, x_sti 77 9), (77, x_ldi 79 8), (79, x_lda 80 3), (80, x_gf 83 4 0), (83, x_ldi 85 5), (85, x_ald 86 0), (86, x_st (x_icne 93 89)), (89, x_st (x_push 90 (.int (1)))), (90, x_st (x_goto 94)), (93, x_st (x_push 94 (.int (0)))), (94, x_sti 96 10), (96, x_ldi 98 8), (98, x_cl_ 101 2 1), (101, x_st (x_ifeq 128 104)), (104, x_lda 105 3), (105, x_ldi 107 5), (107, x_cv 110 20 2 4), (110, x_sti 112 9), (112, x_lda 113 0), (113, x_ldi 115 8), (115, x_cl_ 118 3 1), (118, x_lda 119 3), (119, x_ldi 121 5), (121, x_ldi 123 9), (123, x_cv 126 56 5 6), (126, x_sti 128 10), (128, x_ldi 130 10), (130, x_st (x_ifne 135 133)), (133, x_st (x_push 134 (.int (0)))), (134, x_ri (.boolean)), (135, x_ldi 137 9), (137, x_sti 139 5), (139, x_iinc 142 7 (1)), (142, x_st (x_goto 42)), (145, x_ldi 147 5), (147, x_ldi 149 6), (149, x_st (x_icne 156 152))]
set_option maxRecDepth 100000 in
set_option maxHeartbeats 4000000 in
theorem q_s55_1 (l : Launch) (s0 : State) : ∀ q ∈ q_k55_1, x_Sim (x_K s0) none l q_y55 q_c55 11 (some .boolean) q_w55 q.1 q.2 := by
  unfold q_k55_1
  refine List.forall_mem_cons.2 ⟨s_iload (by decide +kernel), ?_⟩
  refine List.forall_mem_cons.2 ⟨s_iconst (k := 1) (by decide +kernel) (by decide +kernel), ?_⟩
  refine List.forall_mem_cons.2 ⟨s_iadd (by decide +kernel), ?_⟩
  refine List.forall_mem_cons.2 ⟨s_istore (by decide +kernel) (by decide), ?_⟩
  refine List.forall_mem_cons.2 ⟨s_iload (by decide +kernel), ?_⟩
  refine List.forall_mem_cons.2 ⟨s_aload_n (k := 3) (by decide +kernel) rfl, ?_⟩
  refine List.forall_mem_cons.2 ⟨s_getfield (C := q_n4) (T := q_T4) (N := 6) (idx := 56) (ref := "ProofDesk$Form") (by decide +kernel) rfl q_in4 (by decide) (x_up mw_384) rfl, ?_⟩
  refine List.forall_mem_cons.2 ⟨s_iload (by decide +kernel), ?_⟩
  refine List.forall_mem_cons.2 ⟨s_iald (by decide +kernel) rfl, ?_⟩
  refine List.forall_mem_cons.2 ⟨s_icmp_ne (off := 7) (by decide +kernel) (by decide), ?_⟩
  refine List.forall_mem_cons.2 ⟨s_iconst (k := 1) (by decide +kernel) (by decide +kernel), ?_⟩
  refine List.forall_mem_cons.2 ⟨s_goto (off := 4) (by decide +kernel) (by decide), ?_⟩
  refine List.forall_mem_cons.2 ⟨s_iconst (k := 0) (by decide +kernel) (by decide +kernel), ?_⟩
  refine List.forall_mem_cons.2 ⟨s_istore (by decide +kernel) (by decide), ?_⟩
  refine List.forall_mem_cons.2 ⟨s_iload (by decide +kernel), ?_⟩
  refine List.forall_mem_cons.2 ⟨s_invokestatic (idx := 59) (M := 2) (ym := q_y2) (wm := q_w2) (by decide +kernel) rfl rfl (x_gdS mw_385 mw_174 mw_175 mw_172) rfl (by decide +kernel) (by decide), ?_⟩
  refine List.forall_mem_cons.2 ⟨s_ifeq (off := 27) (by decide +kernel) (by decide), ?_⟩
  refine List.forall_mem_cons.2 ⟨s_aload_n (k := 3) (by decide +kernel) rfl, ?_⟩
  refine List.forall_mem_cons.2 ⟨s_iload (by decide +kernel), ?_⟩
  refine List.forall_mem_cons.2 ⟨s_invokevirtual (idx := 65) (M := 20) (k := 1) (ci := 4) (C := q_n4) (T := q_T4) (N := 6) (ym := q_y20) (wm := q_w20) (by decide +kernel) rfl rfl rfl (x_gdV mw_386 mw_234 mw_235 mw_203 mw_232) rfl (by decide +kernel) (by decide), ?_⟩
  refine List.forall_mem_cons.2 ⟨s_istore (by decide +kernel) (by decide), ?_⟩
  refine List.forall_mem_cons.2 ⟨s_aload_n (k := 0) (by decide +kernel) rfl, ?_⟩
  refine List.forall_mem_cons.2 ⟨s_iload (by decide +kernel), ?_⟩
  refine List.forall_mem_cons.2 ⟨s_invokestatic (idx := 68) (M := 3) (ym := q_y3) (wm := q_w3) (by decide +kernel) rfl rfl (x_gdS mw_387 mw_178 mw_175 mw_176) rfl (by decide +kernel) (by decide), ?_⟩
  refine List.forall_mem_cons.2 ⟨s_aload_n (k := 3) (by decide +kernel) rfl, ?_⟩
  refine List.forall_mem_cons.2 ⟨s_iload (by decide +kernel), ?_⟩
  refine List.forall_mem_cons.2 ⟨s_iload (by decide +kernel), ?_⟩
  refine List.forall_mem_cons.2 ⟨s_invokevirtual (idx := 71) (M := 56) (k := 4) (ci := 6) (C := q_n6) (T := q_T6) (N := 3) (ym := q_y56) (wm := q_w56) (by decide +kernel) rfl rfl rfl (x_gdV mw_389 mw_390 mw_391 mw_371 mw_388) rfl (by decide +kernel) (by decide), ?_⟩
  refine List.forall_mem_cons.2 ⟨s_istore (by decide +kernel) (by decide), ?_⟩
  refine List.forall_mem_cons.2 ⟨s_iload (by decide +kernel), ?_⟩
  refine List.forall_mem_cons.2 ⟨s_ifne (off := 5) (by decide +kernel) (by decide), ?_⟩
  refine List.forall_mem_cons.2 ⟨s_iconst (k := 0) (by decide +kernel) (by decide +kernel), ?_⟩
  refine List.forall_mem_cons.2 ⟨s_ireturn (ty := .boolean) (by decide +kernel) rfl, ?_⟩
  refine List.forall_mem_cons.2 ⟨s_iload (by decide +kernel), ?_⟩
  refine List.forall_mem_cons.2 ⟨s_istore (by decide +kernel) (by decide), ?_⟩
  refine List.forall_mem_cons.2 ⟨s_iinc (k := 1) (by decide +kernel) (by decide +kernel) (by decide), ?_⟩
  refine List.forall_mem_cons.2 ⟨s_goto (off := -100) (by decide +kernel) (by decide), ?_⟩
  refine List.forall_mem_cons.2 ⟨s_iload (by decide +kernel), ?_⟩
  refine List.forall_mem_cons.2 ⟨s_iload (by decide +kernel), ?_⟩
  refine List.forall_mem_cons.2 ⟨s_icmp_ne (off := 7) (by decide +kernel) (by decide), ?_⟩
  exact fun _ h => absurd h List.not_mem_nil
def q_k55_2 : List (Nat × xO) := [(152, x_st (x_push 153 (.int (1)))), (153, x_st (x_goto 157)), (156, x_st (x_push 157 (.int (0)))), (157, x_ri (.boolean))]
set_option maxRecDepth 100000 in
set_option maxHeartbeats 4000000 in
theorem q_s55_2 (l : Launch) (s0 : State) : ∀ q ∈ q_k55_2, x_Sim (x_K s0) none l q_y55 q_c55 11 (some .boolean) q_w55 q.1 q.2 := by
  unfold q_k55_2
  refine List.forall_mem_cons.2 ⟨s_iconst (k := 1) (by decide +kernel) (by decide +kernel), ?_⟩
  refine List.forall_mem_cons.2 ⟨s_goto (off := 4) (by decide +kernel) (by decide), ?_⟩
  refine List.forall_mem_cons.2 ⟨s_iconst (k := 0) (by decide +kernel) (by decide +kernel), ?_⟩
  refine List.forall_mem_cons.2 ⟨s_ireturn (ty := .boolean) (by decide +kernel) rfl, ?_⟩
  exact fun _ h => absurd h List.not_mem_nil
def q_k55 : List (Nat × xO) := q_k55_0 ++ q_k55_1 ++ q_k55_2
theorem q_s55 (l : Launch) (s0 : State) : ∀ q ∈ q_k55, x_Sim (x_K s0) none l q_y55 q_c55 11 (some .boolean) q_w55 q.1 q.2 := by
  intro q hq
  simp only [q_k55, List.mem_append] at hq
  rcases hq with (h0 | h1) | h2
  · exact q_s55_0 l s0 q h0
  · exact q_s55_1 l s0 q h1
  · exact q_s55_2 l s0 q h2
/-- ProofDesk$Matcher.bind(ILProofDesk$Form;II)Z -/
def q_k56_0 : List (Nat × xO) := [(0, x_ldi 1 1), (1, x_st (x_push 3 (.int (26)))), (3, x_st (x_iclt 8 6)), (6, x_st (x_push 7 (.int (0)))), (7, x_ri (.boolean)), (8, x_lda 9 0), (9, x_gf 12 6 0), (12, x_ldi 13 1), (13, x_ald 14 0), (14, x_st (x_iflt 33 17)), (17, x_lda 18 2), (18, x_lda 19 0), (19, x_gf 22 6 0), (22, x_ldi 23 1), (23, x_ald 24 0), (24, x_ldi 25 3), (25, x_ldi 27 4), (27, x_ldi 28 3), (28, x_st (x_bin 29 (fun a b => a - b))), (29, x_cv 32 19 4 4), (32, x_ri (.boolean)), (33, x_lda 34 0), (34, x_gf 37 6 2), (37, x_st (x_push 39 (.int (26)))), (39, x_st (x_iclt 44 42)), (42, x_st (x_push 43 (.int (0)))), (43, x_ri (.boolean)), (44, x_lda 45 0), (45, x_gf 48 6 0), (48, x_ldi 49 1), (49, x_ldi 50 3), (50, x_ast 51 0 (fun x => x)), (51, x_lda 52 0), (52, x_gf 55 6 1), (55, x_lda 56 0), (56, x_gf 59 6 2), (59, x_ldi 60 1), (60, x_ast 61 0 (fun x => x)), (61, x_lda 62 0), (62, x_st (x_dup 63))]
set_option maxRecDepth 100000 in
set_option maxHeartbeats 4000000 in
theorem q_s56_0 (l : Launch) (s0 : State) : ∀ q ∈ q_k56_0, x_Sim (x_K s0) none l q_y56 q_c56 5 (some .boolean) q_w56 q.1 q.2 := by
  unfold q_k56_0
  refine List.forall_mem_cons.2 ⟨s_iload_n (k := 1) (by decide +kernel) rfl, ?_⟩
  refine List.forall_mem_cons.2 ⟨s_bipush (k := 26) (by decide +kernel) (by decide +kernel), ?_⟩
  refine List.forall_mem_cons.2 ⟨s_icmp_lt (off := 5) (by decide +kernel) (by decide), ?_⟩
  refine List.forall_mem_cons.2 ⟨s_iconst (k := 0) (by decide +kernel) (by decide +kernel), ?_⟩
  refine List.forall_mem_cons.2 ⟨s_ireturn (ty := .boolean) (by decide +kernel) rfl, ?_⟩
  refine List.forall_mem_cons.2 ⟨s_aload_n (k := 0) (by decide +kernel) rfl, ?_⟩
  refine List.forall_mem_cons.2 ⟨s_getfield (C := q_n6) (T := q_T6) (N := 3) (idx := 9) (ref := "ProofDesk$Matcher") (by decide +kernel) rfl q_in6 (by decide) (x_up mw_363) rfl, ?_⟩
  refine List.forall_mem_cons.2 ⟨s_iload_n (k := 1) (by decide +kernel) rfl, ?_⟩
  refine List.forall_mem_cons.2 ⟨s_iald (by decide +kernel) rfl, ?_⟩
  refine List.forall_mem_cons.2 ⟨s_iflt (off := 19) (by decide +kernel) (by decide), ?_⟩
  refine List.forall_mem_cons.2 ⟨s_aload_n (k := 2) (by decide +kernel) rfl, ?_⟩
  refine List.forall_mem_cons.2 ⟨s_aload_n (k := 0) (by decide +kernel) rfl, ?_⟩
  refine List.forall_mem_cons.2 ⟨s_getfield (C := q_n6) (T := q_T6) (N := 3) (idx := 9) (ref := "ProofDesk$Matcher") (by decide +kernel) rfl q_in6 (by decide) (x_up mw_363) rfl, ?_⟩
  refine List.forall_mem_cons.2 ⟨s_iload_n (k := 1) (by decide +kernel) rfl, ?_⟩
  refine List.forall_mem_cons.2 ⟨s_iald (by decide +kernel) rfl, ?_⟩
  refine List.forall_mem_cons.2 ⟨s_iload_n (k := 3) (by decide +kernel) rfl, ?_⟩
  refine List.forall_mem_cons.2 ⟨s_iload (by decide +kernel), ?_⟩
  refine List.forall_mem_cons.2 ⟨s_iload_n (k := 3) (by decide +kernel) rfl, ?_⟩
  refine List.forall_mem_cons.2 ⟨s_isub (by decide +kernel), ?_⟩
  refine List.forall_mem_cons.2 ⟨s_invokevirtual (idx := 75) (M := 19) (k := 3) (ci := 4) (C := q_n4) (T := q_T4) (N := 6) (ym := q_y19) (wm := q_w19) (by decide +kernel) rfl rfl rfl (x_gdV mw_392 mw_212 mw_213 mw_203 mw_210) rfl (by decide +kernel) (by decide), ?_⟩
  refine List.forall_mem_cons.2 ⟨s_ireturn (ty := .boolean) (by decide +kernel) rfl, ?_⟩
  refine List.forall_mem_cons.2 ⟨s_aload_n (k := 0) (by decide +kernel) rfl, ?_⟩
  refine List.forall_mem_cons.2 ⟨s_getfield (C := q_n6) (T := q_T6) (N := 3) (idx := 24) (ref := "ProofDesk$Matcher") (by decide +kernel) rfl q_in6 (by decide) (x_up mw_366) rfl, ?_⟩
  refine List.forall_mem_cons.2 ⟨s_bipush (k := 26) (by decide +kernel) (by decide +kernel), ?_⟩
  refine List.forall_mem_cons.2 ⟨s_icmp_lt (off := 5) (by decide +kernel) (by decide), ?_⟩
  refine List.forall_mem_cons.2 ⟨s_iconst (k := 0) (by decide +kernel) (by decide +kernel), ?_⟩
  refine List.forall_mem_cons.2 ⟨s_ireturn (ty := .boolean) (by decide +kernel) rfl, ?_⟩
  refine List.forall_mem_cons.2 ⟨s_aload_n (k := 0) (by decide +kernel) rfl, ?_⟩
  refine List.forall_mem_cons.2 ⟨s_getfield (C := q_n6) (T := q_T6) (N := 3) (idx := 9) (ref := "ProofDesk$Matcher") (by decide +kernel) rfl q_in6 (by decide) (x_up mw_363) rfl, ?_⟩
  refine List.forall_mem_cons.2 ⟨s_iload_n (k := 1) (by decide +kernel) rfl, ?_⟩
  refine List.forall_mem_cons.2 ⟨s_iload_n (k := 3) (by decide +kernel) rfl, ?_⟩
  refine List.forall_mem_cons.2 ⟨s_iast (by decide +kernel) rfl, ?_⟩
  refine List.forall_mem_cons.2 ⟨s_aload_n (k := 0) (by decide +kernel) rfl, ?_⟩
  refine List.forall_mem_cons.2 ⟨s_getfield (C := q_n6) (T := q_T6) (N := 3) (idx := 15) (ref := "ProofDesk$Matcher") (by decide +kernel) rfl q_in6 (by decide) (x_up mw_364) rfl, ?_⟩
  refine List.forall_mem_cons.2 ⟨s_aload_n (k := 0) (by decide +kernel) rfl, ?_⟩
  refine List.forall_mem_cons.2 ⟨s_getfield (C := q_n6) (T := q_T6) (N := 3) (idx := 24) (ref := "ProofDesk$Matcher") (by decide +kernel) rfl q_in6 (by decide) (x_up mw_366) rfl, ?_⟩
  refine List.forall_mem_cons.2 ⟨s_iload_n (k := 1) (by decide +kernel) rfl, ?_⟩
  refine List.forall_mem_cons.2 ⟨s_iast (by decide +kernel) rfl, ?_⟩
  refine List.forall_mem_cons.2 ⟨s_aload_n (k := 0) (by decide +kernel) rfl, ?_⟩
  refine List.forall_mem_cons.2 ⟨s_dup (by decide +kernel), ?_⟩
  exact fun _ h => absurd h List.not_mem_nil
def q_k56_1 : List (Nat × xO) := [(63, x_gf 66 6 2), (66, x_st (x_push 67 (.int (1)))), (67, x_st (x_bin 68 (fun a b => a + b))), (68, x_pf 71 6 2 (.int)), (71, x_st (x_push 72 (.int (1)))), (72, x_ri (.boolean))]
set_option maxRecDepth 100000 in
set_option maxHeartbeats 4000000 in
theorem q_s56_1 (l : Launch) (s0 : State) : ∀ q ∈ q_k56_1, x_Sim (x_K s0) none l q_y56 q_c56 5 (some .boolean) q_w56 q.1 q.2 := by
  unfold q_k56_1
  refine List.forall_mem_cons.2 ⟨s_getfield (C := q_n6) (T := q_T6) (N := 3) (idx := 24) (ref := "ProofDesk$Matcher") (by decide +kernel) rfl q_in6 (by decide) (x_up mw_366) rfl, ?_⟩
  refine List.forall_mem_cons.2 ⟨s_iconst (k := 1) (by decide +kernel) (by decide +kernel), ?_⟩
  refine List.forall_mem_cons.2 ⟨s_iadd (by decide +kernel), ?_⟩
  refine List.forall_mem_cons.2 ⟨s_putfield (C := q_n6) (T := q_T6) (N := 3) (idx := 24) (ref := "ProofDesk$Matcher") q_t6 (by decide +kernel) rfl q_in6 q_ty6 q_nm6 (by decide) (x_up mw_366) rfl rfl (by decide +kernel), ?_⟩
  refine List.forall_mem_cons.2 ⟨s_iconst (k := 1) (by decide +kernel) (by decide +kernel), ?_⟩
  refine List.forall_mem_cons.2 ⟨s_ireturn (ty := .boolean) (by decide +kernel) rfl, ?_⟩
  exact fun _ h => absurd h List.not_mem_nil
def q_k56 : List (Nat × xO) := q_k56_0 ++ q_k56_1
theorem q_s56 (l : Launch) (s0 : State) : ∀ q ∈ q_k56, x_Sim (x_K s0) none l q_y56 q_c56 5 (some .boolean) q_w56 q.1 q.2 := by
  intro q hq
  simp only [q_k56, List.mem_append] at hq
  rcases hq with h0 | h1
  · exact q_s56_0 l s0 q h0
  · exact q_s56_1 l s0 q h1
/-- ProofDesk$Matcher.release(I)V -/
def q_k57_0 : List (Nat × xO) := [(0, x_lda 1 0), (1, x_gf 4 6 2), (4, x_ldi 5 1), (5, x_st (x_icle 36 8)), (8, x_lda 9 0), (9, x_st (x_dup 10)), (10, x_gf 13 6 2), (13, x_st (x_push 14 (.int (1)))), (14, x_st (x_bin 15 (fun a b => a - b))), (15, x_pf 18 6 2 (.int)), (18, x_lda 19 0), (19, x_gf 22 6 0), (22, x_lda 23 0), (23, x_gf 26 6 1), (26, x_lda 27 0), (27, x_gf 30 6 2), (30, x_ald 31 0), (31, x_st (x_push 32 (.int (-1)))), (32, x_ast 33 0 (fun x => x)), (33, x_st (x_goto 0)), (36, x_rv)]
set_option maxRecDepth 100000 in
set_option maxHeartbeats 4000000 in
theorem q_s57_0 (l : Launch) (s0 : State) : ∀ q ∈ q_k57_0, x_Sim (x_K s0) none l q_y57 q_c57 2 none q_w57 q.1 q.2 := by
  unfold q_k57_0
  refine List.forall_mem_cons.2 ⟨s_aload_n (k := 0) (by decide +kernel) rfl, ?_⟩
  refine List.forall_mem_cons.2 ⟨s_getfield (C := q_n6) (T := q_T6) (N := 3) (idx := 24) (ref := "ProofDesk$Matcher") (by decide +kernel) rfl q_in6 (by decide) (x_up mw_366) rfl, ?_⟩
  refine List.forall_mem_cons.2 ⟨s_iload_n (k := 1) (by decide +kernel) rfl, ?_⟩
  refine List.forall_mem_cons.2 ⟨s_icmp_le (off := 31) (by decide +kernel) (by decide), ?_⟩
  refine List.forall_mem_cons.2 ⟨s_aload_n (k := 0) (by decide +kernel) rfl, ?_⟩
  refine List.forall_mem_cons.2 ⟨s_dup (by decide +kernel), ?_⟩
  refine List.forall_mem_cons.2 ⟨s_getfield (C := q_n6) (T := q_T6) (N := 3) (idx := 24) (ref := "ProofDesk$Matcher") (by decide +kernel) rfl q_in6 (by decide) (x_up mw_366) rfl, ?_⟩
  refine List.forall_mem_cons.2 ⟨s_iconst (k := 1) (by decide +kernel) (by decide +kernel), ?_⟩
  refine List.forall_mem_cons.2 ⟨s_isub (by decide +kernel), ?_⟩
  refine List.forall_mem_cons.2 ⟨s_putfield (C := q_n6) (T := q_T6) (N := 3) (idx := 24) (ref := "ProofDesk$Matcher") q_t6 (by decide +kernel) rfl q_in6 q_ty6 q_nm6 (by decide) (x_up mw_366) rfl rfl (by decide +kernel), ?_⟩
  refine List.forall_mem_cons.2 ⟨s_aload_n (k := 0) (by decide +kernel) rfl, ?_⟩
  refine List.forall_mem_cons.2 ⟨s_getfield (C := q_n6) (T := q_T6) (N := 3) (idx := 9) (ref := "ProofDesk$Matcher") (by decide +kernel) rfl q_in6 (by decide) (x_up mw_363) rfl, ?_⟩
  refine List.forall_mem_cons.2 ⟨s_aload_n (k := 0) (by decide +kernel) rfl, ?_⟩
  refine List.forall_mem_cons.2 ⟨s_getfield (C := q_n6) (T := q_T6) (N := 3) (idx := 15) (ref := "ProofDesk$Matcher") (by decide +kernel) rfl q_in6 (by decide) (x_up mw_364) rfl, ?_⟩
  refine List.forall_mem_cons.2 ⟨s_aload_n (k := 0) (by decide +kernel) rfl, ?_⟩
  refine List.forall_mem_cons.2 ⟨s_getfield (C := q_n6) (T := q_T6) (N := 3) (idx := 24) (ref := "ProofDesk$Matcher") (by decide +kernel) rfl q_in6 (by decide) (x_up mw_366) rfl, ?_⟩
  refine List.forall_mem_cons.2 ⟨s_iald (by decide +kernel) rfl, ?_⟩
  refine List.forall_mem_cons.2 ⟨s_iconst (k := -1) (by decide +kernel) (by decide +kernel), ?_⟩
  refine List.forall_mem_cons.2 ⟨s_iast (by decide +kernel) rfl, ?_⟩
  refine List.forall_mem_cons.2 ⟨s_goto (off := -33) (by decide +kernel) (by decide), ?_⟩
  refine List.forall_mem_cons.2 ⟨s_return (by decide +kernel) rfl, ?_⟩
  exact fun _ h => absurd h List.not_mem_nil
def q_k57 : List (Nat × xO) := q_k57_0
theorem q_s57 (l : Launch) (s0 : State) : ∀ q ∈ q_k57, x_Sim (x_K s0) none l q_y57 q_c57 2 none q_w57 q.1 q.2 := q_s57_0 l s0
