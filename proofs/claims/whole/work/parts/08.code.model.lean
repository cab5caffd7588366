/-- ProofDeskModel.<init>()V -/
def q_k91_0 : List (Nat × xO) := [(0, x_lda 1 0), (1, x_st (x_oi 4)), (4, x_lda 5 0), (5, x_st (x_push 8 (.int (1320)))), (8, x_na 10 0), (10, x_pf 13 8 3 (.array .int)), (13, x_lda 14 0), (14, x_st (x_push 17 (.int (210)))), (17, x_na 19 0), (19, x_pf 22 8 4 (.array .int)), (22, x_lda 23 0), (23, x_st (x_push 25 (.int (30)))), (25, x_na 27 0), (27, x_pf 30 8 5 (.array .int)), (30, x_lda 31 0), (31, x_st (x_push 33 (.int (30)))), (33, x_na 35 0), (35, x_pf 38 8 6 (.array .int)), (38, x_lda 39 0), (39, x_st (x_push 41 (.int (30)))), (41, x_na 43 0), (43, x_pf 46 8 7 (.array .int)), (46, x_lda 47 0), (47, x_st (x_push 50 (.int (210)))), (50, x_na 52 1), (52, x_pf 55 8 8 (.array .boolean)), (55, x_lda 56 0), (56, x_st (x_push 58 (.int (30)))), (58, x_na 60 1), (60, x_pf 63 8 9 (.array .boolean)), (63, x_lda 64 0), (64, x_st (x_push 66 (.int (26)))), (66, x_na 68 0), (68, x_pf 71 8 10 (.array .int)), (71, x_lda 72 0), (72, x_st (x_push 74 (.int (26)))), (74, x_na 76 0), (76, x_pf 79 8 11 (.array .int)), (79, x_lda 80 0), (80, x_st (x_push 82 (.int (60))))]
set_option maxRecDepth 100000 in
set_option maxHeartbeats 4000000 in
theorem q_s91_0 (l : Launch) (s0 : State) : ∀ q ∈ q_k91_0, x_Sim (x_K s0) none l q_y91 q_c91 1 none q_w91 q.1 q.2 := by
  unfold q_k91_0
  refine List.forall_mem_cons.2 ⟨s_aload_n (k := 0) (by decide +kernel) rfl, ?_⟩
  refine List.forall_mem_cons.2 ⟨s_objInit (idx := 1) (by decide +kernel) (x_up mw_642) (x_up mw_100) (x_up mw_obj), ?_⟩
  refine List.forall_mem_cons.2 ⟨s_aload_n (k := 0) (by decide +kernel) rfl, ?_⟩
  refine List.forall_mem_cons.2 ⟨s_sipush (k := 1320) (by decide +kernel) (by decide +kernel), ?_⟩
  refine List.forall_mem_cons.2 ⟨s_newarray (at0 := .int) (ty := .int) (by decide +kernel) rfl (x_up mw_188) rfl (by decide) rfl (fun _ _ h => h), ?_⟩
  refine List.forall_mem_cons.2 ⟨s_putfieldF (C := q_n8) (T := q_T8) (N := 39) (idx := 7) q_t8 (by decide +kernel) rfl q_in8 q_ty8 q_nm8 (by decide) (x_up mw_643) rfl rfl (by decide +kernel) rfl, ?_⟩
  refine List.forall_mem_cons.2 ⟨s_aload_n (k := 0) (by decide +kernel) rfl, ?_⟩
  refine List.forall_mem_cons.2 ⟨s_sipush (k := 210) (by decide +kernel) (by decide +kernel), ?_⟩
  refine List.forall_mem_cons.2 ⟨s_newarray (at0 := .int) (ty := .int) (by decide +kernel) rfl (x_up mw_188) rfl (by decide) rfl (fun _ _ h => h), ?_⟩
  refine List.forall_mem_cons.2 ⟨s_putfieldF (C := q_n8) (T := q_T8) (N := 39) (idx := 13) q_t8 (by decide +kernel) rfl q_in8 q_ty8 q_nm8 (by decide) (x_up mw_644) rfl rfl (by decide +kernel) rfl, ?_⟩
  refine List.forall_mem_cons.2 ⟨s_aload_n (k := 0) (by decide +kernel) rfl, ?_⟩
  refine List.forall_mem_cons.2 ⟨s_bipush (k := 30) (by decide +kernel) (by decide +kernel), ?_⟩
  refine List.forall_mem_cons.2 ⟨s_newarray (at0 := .int) (ty := .int) (by decide +kernel) rfl (x_up mw_188) rfl (by decide) rfl (fun _ _ h => h), ?_⟩
  refine List.forall_mem_cons.2 ⟨s_putfieldF (C := q_n8) (T := q_T8) (N := 39) (idx := 16) q_t8 (by decide +kernel) rfl q_in8 q_ty8 q_nm8 (by decide) (x_up mw_645) rfl rfl (by decide +kernel) rfl, ?_⟩
  refine List.forall_mem_cons.2 ⟨s_aload_n (k := 0) (by decide +kernel) rfl, ?_⟩
  refine List.forall_mem_cons.2 ⟨s_bipush (k := 30) (by decide +kernel) (by decide +kernel), ?_⟩
  refine List.forall_mem_cons.2 ⟨s_newarray (at0 := .int) (ty := .int) (by decide +kernel) rfl (x_up mw_188) rfl (by decide) rfl (fun _ _ h => h), ?_⟩
  refine List.forall_mem_cons.2 ⟨s_putfieldF (C := q_n8) (T := q_T8) (N := 39) (idx := 19) q_t8 (by decide +kernel) rfl q_in8 q_ty8 q_nm8 (by decide) (x_up mw_646) rfl rfl (by decide +kernel) rfl, ?_⟩
  refine List.forall_mem_cons.2 ⟨s_aload_n (k := 0) (by decide +kernel) rfl, ?_⟩
  refine List.forall_mem_cons.2 ⟨s_bipush (k := 30) (by decide +kernel) (by decide +kernel), ?_⟩
  refine List.forall_mem_cons.2 ⟨s_newarray (at0 := .int) (ty := .int) (by decide +kernel) rfl (x_up mw_188) rfl (by decide) rfl (fun _ _ h => h), ?_⟩
  refine List.forall_mem_cons.2 ⟨s_putfieldF (C := q_n8) (T := q_T8) (N := 39) (idx := 22) q_t8 (by decide +kernel) rfl q_in8 q_ty8 q_nm8 (by decide) (x_up mw_647) rfl rfl (by decide +kernel) rfl, ?_⟩
  refine List.forall_mem_cons.2 ⟨s_aload_n (k := 0) (by decide +kernel) rfl, ?_⟩
  refine List.forall_mem_cons.2 ⟨s_sipush (k := 210) (by decide +kernel) (by decide +kernel), ?_⟩
  refine List.forall_mem_cons.2 ⟨s_newarray (at0 := .boolean) (ty := .boolean) (by decide +kernel) rfl (x_up mw_191) rfl (by decide) rfl (fun _ _ h => h), ?_⟩
  refine List.forall_mem_cons.2 ⟨s_putfieldF (C := q_n8) (T := q_T8) (N := 39) (idx := 25) q_t8 (by decide +kernel) rfl q_in8 q_ty8 q_nm8 (by decide) (x_up mw_648) rfl rfl (by decide +kernel) rfl, ?_⟩
  refine List.forall_mem_cons.2 ⟨s_aload_n (k := 0) (by decide +kernel) rfl, ?_⟩
  refine List.forall_mem_cons.2 ⟨s_bipush (k := 30) (by decide +kernel) (by decide +kernel), ?_⟩
  refine List.forall_mem_cons.2 ⟨s_newarray (at0 := .boolean) (ty := .boolean) (by decide +kernel) rfl (x_up mw_191) rfl (by decide) rfl (fun _ _ h => h), ?_⟩
  refine List.forall_mem_cons.2 ⟨s_putfieldF (C := q_n8) (T := q_T8) (N := 39) (idx := 29) q_t8 (by decide +kernel) rfl q_in8 q_ty8 q_nm8 (by decide) (x_up mw_649) rfl rfl (by decide +kernel) rfl, ?_⟩
  refine List.forall_mem_cons.2 ⟨s_aload_n (k := 0) (by decide +kernel) rfl, ?_⟩
  refine List.forall_mem_cons.2 ⟨s_bipush (k := 26) (by decide +kernel) (by decide +kernel), ?_⟩
  refine List.forall_mem_cons.2 ⟨s_newarray (at0 := .int) (ty := .int) (by decide +kernel) rfl (x_up mw_188) rfl (by decide) rfl (fun _ _ h => h), ?_⟩
  refine List.forall_mem_cons.2 ⟨s_putfieldF (C := q_n8) (T := q_T8) (N := 39) (idx := 32) q_t8 (by decide +kernel) rfl q_in8 q_ty8 q_nm8 (by decide) (x_up mw_650) rfl rfl (by decide +kernel) rfl, ?_⟩
  refine List.forall_mem_cons.2 ⟨s_aload_n (k := 0) (by decide +kernel) rfl, ?_⟩
  refine List.forall_mem_cons.2 ⟨s_bipush (k := 26) (by decide +kernel) (by decide +kernel), ?_⟩
  refine List.forall_mem_cons.2 ⟨s_newarray (at0 := .int) (ty := .int) (by decide +kernel) rfl (x_up mw_188) rfl (by decide) rfl (fun _ _ h => h), ?_⟩
  refine List.forall_mem_cons.2 ⟨s_putfieldF (C := q_n8) (T := q_T8) (N := 39) (idx := 35) q_t8 (by decide +kernel) rfl q_in8 q_ty8 q_nm8 (by decide) (x_up mw_651) rfl rfl (by decide +kernel) rfl, ?_⟩
  refine List.forall_mem_cons.2 ⟨s_aload_n (k := 0) (by decide +kernel) rfl, ?_⟩
  refine List.forall_mem_cons.2 ⟨s_bipush (k := 60) (by decide +kernel) (by decide +kernel), ?_⟩
  exact fun _ h => absurd h List.not_mem_nil
def q_k91_1 : List (Nat × xO) := [(82, x_na 84 2), (84, x_pf 87 8 12 (.array .char)), (87, x_lda 88 0), (88, x_st (x_push 91 (.int (600)))), (91, x_na 93 0), (93, x_pf 96 8 17 (.array .int)), (96, x_lda 97 0), (97, x_st (x_push 99 (.int (14)))), (99, x_na 101 0), (101, x_pf 104 8 18 (.array .int)), (104, x_lda 105 0), (105, x_st (x_push 107 (.int (52)))), (107, x_na 109 0), (109, x_pf 112 8 19 (.array .int)), (112, x_lda 113 0), (113, x_st (x_push 115 (.int (14)))), (115, x_na 117 1), (117, x_pf 120 8 20 (.array .boolean)), (120, x_lda 121 0), (121, x_st (x_push 123 (.int (60)))), (123, x_na 125 0), (125, x_pf 128 8 25 (.array .int)), (128, x_lda 129 0), (129, x_st (x_push 131 (.int (8)))), (131, x_na 133 0), (133, x_pf 136 8 26 (.array .int)), (136, x_lda 137 0), (137, x_st (x_push 139 (.int (8)))), (139, x_na 141 1), (141, x_pf 144 8 27 (.array .boolean)), (144, x_lda 145 0), (145, x_st (x_push 148 (.int (160)))), (148, x_na 150 0), (150, x_pf 153 8 29 (.array .int)), (153, x_lda 154 0), (154, x_st (x_push 156 (.int (52)))), (156, x_na 158 0), (158, x_pf 161 8 30 (.array .int)), (161, x_lda 162 0), (162, x_st (x_push 165 (.int (400))))]
set_option maxRecDepth 100000 in
set_option maxHeartbeats 4000000 in
theorem q_s91_1 (l : Launch) (s0 : State) : ∀ q ∈ q_k91_1, x_Sim (x_K s0) none l q_y91 q_c91 1 none q_w91 q.1 q.2 := by
  unfold q_k91_1
  refine List.forall_mem_cons.2 ⟨s_newarray (at0 := .char) (ty := .char) (by decide +kernel) rfl (x_up mw_237) rfl (by decide) rfl (fun _ _ h => h), ?_⟩
  refine List.forall_mem_cons.2 ⟨s_putfieldF (C := q_n8) (T := q_T8) (N := 39) (idx := 38) q_t8 (by decide +kernel) rfl q_in8 q_ty8 q_nm8 (by decide) (x_up mw_652) rfl rfl (by decide +kernel) rfl, ?_⟩
  refine List.forall_mem_cons.2 ⟨s_aload_n (k := 0) (by decide +kernel) rfl, ?_⟩
  refine List.forall_mem_cons.2 ⟨s_sipush (k := 600) (by decide +kernel) (by decide +kernel), ?_⟩
  refine List.forall_mem_cons.2 ⟨s_newarray (at0 := .int) (ty := .int) (by decide +kernel) rfl (x_up mw_188) rfl (by decide) rfl (fun _ _ h => h), ?_⟩
  refine List.forall_mem_cons.2 ⟨s_putfieldF (C := q_n8) (T := q_T8) (N := 39) (idx := 42) q_t8 (by decide +kernel) rfl q_in8 q_ty8 q_nm8 (by decide) (x_up mw_653) rfl rfl (by decide +kernel) rfl, ?_⟩
  refine List.forall_mem_cons.2 ⟨s_aload_n (k := 0) (by decide +kernel) rfl, ?_⟩
  refine List.forall_mem_cons.2 ⟨s_bipush (k := 14) (by decide +kernel) (by decide +kernel), ?_⟩
  refine List.forall_mem_cons.2 ⟨s_newarray (at0 := .int) (ty := .int) (by decide +kernel) rfl (x_up mw_188) rfl (by decide) rfl (fun _ _ h => h), ?_⟩
  refine List.forall_mem_cons.2 ⟨s_putfieldF (C := q_n8) (T := q_T8) (N := 39) (idx := 45) q_t8 (by decide +kernel) rfl q_in8 q_ty8 q_nm8 (by decide) (x_up mw_654) rfl rfl (by decide +kernel) rfl, ?_⟩
  refine List.forall_mem_cons.2 ⟨s_aload_n (k := 0) (by decide +kernel) rfl, ?_⟩
  refine List.forall_mem_cons.2 ⟨s_bipush (k := 52) (by decide +kernel) (by decide +kernel), ?_⟩
  refine List.forall_mem_cons.2 ⟨s_newarray (at0 := .int) (ty := .int) (by decide +kernel) rfl (x_up mw_188) rfl (by decide) rfl (fun _ _ h => h), ?_⟩
  refine List.forall_mem_cons.2 ⟨s_putfieldF (C := q_n8) (T := q_T8) (N := 39) (idx := 48) q_t8 (by decide +kernel) rfl q_in8 q_ty8 q_nm8 (by decide) (x_up mw_655) rfl rfl (by decide +kernel) rfl, ?_⟩
  refine List.forall_mem_cons.2 ⟨s_aload_n (k := 0) (by decide +kernel) rfl, ?_⟩
  refine List.forall_mem_cons.2 ⟨s_bipush (k := 14) (by decide +kernel) (by decide +kernel), ?_⟩
  refine List.forall_mem_cons.2 ⟨s_newarray (at0 := .boolean) (ty := .boolean) (by decide +kernel) rfl (x_up mw_191) rfl (by decide) rfl (fun _ _ h => h), ?_⟩
  refine List.forall_mem_cons.2 ⟨s_putfieldF (C := q_n8) (T := q_T8) (N := 39) (idx := 51) q_t8 (by decide +kernel) rfl q_in8 q_ty8 q_nm8 (by decide) (x_up mw_656) rfl rfl (by decide +kernel) rfl, ?_⟩
  refine List.forall_mem_cons.2 ⟨s_aload_n (k := 0) (by decide +kernel) rfl, ?_⟩
  refine List.forall_mem_cons.2 ⟨s_bipush (k := 60) (by decide +kernel) (by decide +kernel), ?_⟩
  refine List.forall_mem_cons.2 ⟨s_newarray (at0 := .int) (ty := .int) (by decide +kernel) rfl (x_up mw_188) rfl (by decide) rfl (fun _ _ h => h), ?_⟩
  refine List.forall_mem_cons.2 ⟨s_putfieldF (C := q_n8) (T := q_T8) (N := 39) (idx := 54) q_t8 (by decide +kernel) rfl q_in8 q_ty8 q_nm8 (by decide) (x_up mw_657) rfl rfl (by decide +kernel) rfl, ?_⟩
  refine List.forall_mem_cons.2 ⟨s_aload_n (k := 0) (by decide +kernel) rfl, ?_⟩
  refine List.forall_mem_cons.2 ⟨s_bipush (k := 8) (by decide +kernel) (by decide +kernel), ?_⟩
  refine List.forall_mem_cons.2 ⟨s_newarray (at0 := .int) (ty := .int) (by decide +kernel) rfl (x_up mw_188) rfl (by decide) rfl (fun _ _ h => h), ?_⟩
  refine List.forall_mem_cons.2 ⟨s_putfieldF (C := q_n8) (T := q_T8) (N := 39) (idx := 57) q_t8 (by decide +kernel) rfl q_in8 q_ty8 q_nm8 (by decide) (x_up mw_658) rfl rfl (by decide +kernel) rfl, ?_⟩
  refine List.forall_mem_cons.2 ⟨s_aload_n (k := 0) (by decide +kernel) rfl, ?_⟩
  refine List.forall_mem_cons.2 ⟨s_bipush (k := 8) (by decide +kernel) (by decide +kernel), ?_⟩
  refine List.forall_mem_cons.2 ⟨s_newarray (at0 := .boolean) (ty := .boolean) (by decide +kernel) rfl (x_up mw_191) rfl (by decide) rfl (fun _ _ h => h), ?_⟩
  refine List.forall_mem_cons.2 ⟨s_putfieldF (C := q_n8) (T := q_T8) (N := 39) (idx := 60) q_t8 (by decide +kernel) rfl q_in8 q_ty8 q_nm8 (by decide) (x_up mw_659) rfl rfl (by decide +kernel) rfl, ?_⟩
  refine List.forall_mem_cons.2 ⟨s_aload_n (k := 0) (by decide +kernel) rfl, ?_⟩
  refine List.forall_mem_cons.2 ⟨s_sipush (k := 160) (by decide +kernel) (by decide +kernel), ?_⟩
  refine List.forall_mem_cons.2 ⟨s_newarray (at0 := .int) (ty := .int) (by decide +kernel) rfl (x_up mw_188) rfl (by decide) rfl (fun _ _ h => h), ?_⟩
  refine List.forall_mem_cons.2 ⟨s_putfieldF (C := q_n8) (T := q_T8) (N := 39) (idx := 63) q_t8 (by decide +kernel) rfl q_in8 q_ty8 q_nm8 (by decide) (x_up mw_660) rfl rfl (by decide +kernel) rfl, ?_⟩
  refine List.forall_mem_cons.2 ⟨s_aload_n (k := 0) (by decide +kernel) rfl, ?_⟩
  refine List.forall_mem_cons.2 ⟨s_bipush (k := 52) (by decide +kernel) (by decide +kernel), ?_⟩
  refine List.forall_mem_cons.2 ⟨s_newarray (at0 := .int) (ty := .int) (by decide +kernel) rfl (x_up mw_188) rfl (by decide) rfl (fun _ _ h => h), ?_⟩
  refine List.forall_mem_cons.2 ⟨s_putfieldF (C := q_n8) (T := q_T8) (N := 39) (idx := 66) q_t8 (by decide +kernel) rfl q_in8 q_ty8 q_nm8 (by decide) (x_up mw_661) rfl rfl (by decide +kernel) rfl, ?_⟩
  refine List.forall_mem_cons.2 ⟨s_aload_n (k := 0) (by decide +kernel) rfl, ?_⟩
  refine List.forall_mem_cons.2 ⟨s_sipush (k := 400) (by decide +kernel) (by decide +kernel), ?_⟩
  exact fun _ h => absurd h List.not_mem_nil
def q_k91_2 : List (Nat × xO) := [(165, x_na 167 0), (167, x_pf 170 8 31 (.array .int)), (170, x_lda 171 0), (171, x_st (x_push 174 (.int (400)))), (174, x_na 176 0), (176, x_pf 179 8 32 (.array .int)), (179, x_lda 180 0), (180, x_st (x_push 183 (.int (400)))), (183, x_na 185 0), (185, x_pf 188 8 33 (.array .int)), (188, x_lda 189 0), (189, x_st (x_push 192 (.int (400)))), (192, x_na 194 0), (194, x_pf 197 8 34 (.array .int)), (197, x_lda 198 0), (198, x_st (x_push 200 (.int (6)))), (200, x_na 202 0), (202, x_pf 205 8 35 (.array .int)), (205, x_rv)]
set_option maxRecDepth 100000 in
set_option maxHeartbeats 4000000 in
theorem q_s91_2 (l : Launch) (s0 : State) : ∀ q ∈ q_k91_2, x_Sim (x_K s0) none l q_y91 q_c91 1 none q_w91 q.1 q.2 := by
  unfold q_k91_2
  refine List.forall_mem_cons.2 ⟨s_newarray (at0 := .int) (ty := .int) (by decide +kernel) rfl (x_up mw_188) rfl (by decide) rfl (fun _ _ h => h), ?_⟩
  refine List.forall_mem_cons.2 ⟨s_putfieldF (C := q_n8) (T := q_T8) (N := 39) (idx := 69) q_t8 (by decide +kernel) rfl q_in8 q_ty8 q_nm8 (by decide) (x_up mw_662) rfl rfl (by decide +kernel) rfl, ?_⟩
  refine List.forall_mem_cons.2 ⟨s_aload_n (k := 0) (by decide +kernel) rfl, ?_⟩
  refine List.forall_mem_cons.2 ⟨s_sipush (k := 400) (by decide +kernel) (by decide +kernel), ?_⟩
  refine List.forall_mem_cons.2 ⟨s_newarray (at0 := .int) (ty := .int) (by decide +kernel) rfl (x_up mw_188) rfl (by decide) rfl (fun _ _ h => h), ?_⟩
  refine List.forall_mem_cons.2 ⟨s_putfieldF (C := q_n8) (T := q_T8) (N := 39) (idx := 72) q_t8 (by decide +kernel) rfl q_in8 q_ty8 q_nm8 (by decide) (x_up mw_663) rfl rfl (by decide +kernel) rfl, ?_⟩
  refine List.forall_mem_cons.2 ⟨s_aload_n (k := 0) (by decide +kernel) rfl, ?_⟩
  refine List.forall_mem_cons.2 ⟨s_sipush (k := 400) (by decide +kernel) (by decide +kernel), ?_⟩
  refine List.forall_mem_cons.2 ⟨s_newarray (at0 := .int) (ty := .int) (by decide +kernel) rfl (x_up mw_188) rfl (by decide) rfl (fun _ _ h => h), ?_⟩
  refine List.forall_mem_cons.2 ⟨s_putfieldF (C := q_n8) (T := q_T8) (N := 39) (idx := 75) q_t8 (by decide +kernel) rfl q_in8 q_ty8 q_nm8 (by decide) (x_up mw_664) rfl rfl (by decide +kernel) rfl, ?_⟩
  refine List.forall_mem_cons.2 ⟨s_aload_n (k := 0) (by decide +kernel) rfl, ?_⟩
  refine List.forall_mem_cons.2 ⟨s_sipush (k := 400) (by decide +kernel) (by decide +kernel), ?_⟩
  refine List.forall_mem_cons.2 ⟨s_newarray (at0 := .int) (ty := .int) (by decide +kernel) rfl (x_up mw_188) rfl (by decide) rfl (fun _ _ h => h), ?_⟩
  refine List.forall_mem_cons.2 ⟨s_putfieldF (C := q_n8) (T := q_T8) (N := 39) (idx := 78) q_t8 (by decide +kernel) rfl q_in8 q_ty8 q_nm8 (by decide) (x_up mw_665) rfl rfl (by decide +kernel) rfl, ?_⟩
  refine List.forall_mem_cons.2 ⟨s_aload_n (k := 0) (by decide +kernel) rfl, ?_⟩
  refine List.forall_mem_cons.2 ⟨s_bipush (k := 6) (by decide +kernel) (by decide +kernel), ?_⟩
  refine List.forall_mem_cons.2 ⟨s_newarray (at0 := .int) (ty := .int) (by decide +kernel) rfl (x_up mw_188) rfl (by decide) rfl (fun _ _ h => h), ?_⟩
  refine List.forall_mem_cons.2 ⟨s_putfieldF (C := q_n8) (T := q_T8) (N := 39) (idx := 81) q_t8 (by decide +kernel) rfl q_in8 q_ty8 q_nm8 (by decide) (x_up mw_666) rfl rfl (by decide +kernel) rfl, ?_⟩
  refine List.forall_mem_cons.2 ⟨s_return (by decide +kernel) rfl, ?_⟩
  exact fun _ h => absurd h List.not_mem_nil
def q_k91 : List (Nat × xO) := q_k91_0 ++ q_k91_1 ++ q_k91_2
theorem q_s91 (l : Launch) (s0 : State) : ∀ q ∈ q_k91, x_Sim (x_K s0) none l q_y91 q_c91 1 none q_w91 q.1 q.2 := by
  intro q hq
  simp only [q_k91, List.mem_append] at hq
  rcases hq with (h0 | h1) | h2
  · exact q_s91_0 l s0 q h0
  · exact q_s91_1 l s0 q h1
  · exact q_s91_2 l s0 q h2
/-- ProofDeskModel.thrown()I -/
def q_k92_0 : List (Nat × xO) := [(0, x_lda 1 0), (1, x_gf 4 8 0), (4, x_ri (.int))]
set_option maxRecDepth 100000 in
set_option maxHeartbeats 4000000 in
theorem q_s92_0 (l : Launch) (s0 : State) : ∀ q ∈ q_k92_0, x_Sim (x_K s0) none l q_y92 q_c92 1 (some .int) q_w92 q.1 q.2 := by
  unfold q_k92_0
  refine List.forall_mem_cons.2 ⟨s_aload_n (k := 0) (by decide +kernel) rfl, ?_⟩
  refine List.forall_mem_cons.2 ⟨s_getfield (C := q_n8) (T := q_T8) (N := 39) (idx := 84) (ref := "ProofDeskModel") (by decide +kernel) rfl q_in8 (by decide) (x_up mw_667) rfl, ?_⟩
  refine List.forall_mem_cons.2 ⟨s_ireturn (ty := .int) (by decide +kernel) rfl, ?_⟩
  exact fun _ h => absurd h List.not_mem_nil
def q_k92 : List (Nat × xO) := q_k92_0
theorem q_s92 (l : Launch) (s0 : State) : ∀ q ∈ q_k92, x_Sim (x_K s0) none l q_y92 q_c92 1 (some .int) q_w92 q.1 q.2 := q_s92_0 l s0
/-- ProofDeskModel.fails(II)I -/
def q_k93_0 : List (Nat × xO) := [(0, x_lda 1 0), (1, x_ldi 2 1), (2, x_pf 5 8 0 (.int)), (5, x_lda 6 0), (6, x_ldi 7 2), (7, x_pf 10 8 1 (.int)), (10, x_st (x_push 11 (.int (0)))), (11, x_ri (.int))]
set_option maxRecDepth 100000 in
set_option maxHeartbeats 4000000 in
theorem q_s93_0 (l : Launch) (s0 : State) : ∀ q ∈ q_k93_0, x_Sim (x_K s0) none l q_y93 q_c93 3 (some .int) q_w93 q.1 q.2 := by
  unfold q_k93_0
  refine List.forall_mem_cons.2 ⟨s_aload_n (k := 0) (by decide +kernel) rfl, ?_⟩
  refine List.forall_mem_cons.2 ⟨s_iload_n (k := 1) (by decide +kernel) rfl, ?_⟩
  refine List.forall_mem_cons.2 ⟨s_putfield (C := q_n8) (T := q_T8) (N := 39) (idx := 84) (ref := "ProofDeskModel") q_t8 (by decide +kernel) rfl q_in8 q_ty8 q_nm8 (by decide) (x_up mw_667) rfl rfl (by decide +kernel), ?_⟩
  refine List.forall_mem_cons.2 ⟨s_aload_n (k := 0) (by decide +kernel) rfl, ?_⟩
  refine List.forall_mem_cons.2 ⟨s_iload_n (k := 2) (by decide +kernel) rfl, ?_⟩
  refine List.forall_mem_cons.2 ⟨s_putfield (C := q_n8) (T := q_T8) (N := 39) (idx := 88) (ref := "ProofDeskModel") q_t8 (by decide +kernel) rfl q_in8 q_ty8 q_nm8 (by decide) (x_up mw_668) rfl rfl (by decide +kernel), ?_⟩
  refine List.forall_mem_cons.2 ⟨s_iconst (k := 0) (by decide +kernel) (by decide +kernel), ?_⟩
  refine List.forall_mem_cons.2 ⟨s_ireturn (ty := .int) (by decide +kernel) rfl, ?_⟩
  exact fun _ h => absurd h List.not_mem_nil
def q_k93 : List (Nat × xO) := q_k93_0
theorem q_s93 (l : Launch) (s0 : State) : ∀ q ∈ q_k93, x_Sim (x_K s0) none l q_y93 q_c93 3 (some .int) q_w93 q.1 q.2 := q_s93_0 l s0
/-- ProofDeskModel.write(C)Z -/
def q_k94_0 : List (Nat × xO) := [(0, x_lda 1 0), (1, x_st (x_push 2 (.int (0)))), (2, x_pf 5 8 0 (.int)), (5, x_ldi 6 1), (6, x_st (x_push 8 (.int (32)))), (8, x_st (x_iclt 26 11)), (11, x_ldi 12 1), (12, x_st (x_push 14 (.int (126)))), (14, x_st (x_icgt 26 17)), (17, x_lda 18 0), (18, x_gf 21 8 13), (21, x_st (x_push 23 (.int (60)))), (23, x_st (x_iclt 28 26)), (26, x_st (x_push 27 (.int (0)))), (27, x_ri (.boolean)), (28, x_lda 29 0), (29, x_gf 32 8 12), (32, x_lda 33 0), (33, x_gf 36 8 13), (36, x_ldi 37 1), (37, x_ast 38 2 (fun x => vp_nar .char x)), (38, x_lda 39 0), (39, x_st (x_dup 40)), (40, x_gf 43 8 13), (43, x_st (x_push 44 (.int (1)))), (44, x_st (x_bin 45 (fun a b => a + b))), (45, x_pf 48 8 13 (.int)), (48, x_st (x_push 49 (.int (1)))), (49, x_ri (.boolean))]
set_option maxRecDepth 100000 in
set_option maxHeartbeats 4000000 in
theorem q_s94_0 (l : Launch) (s0 : State) : ∀ q ∈ q_k94_0, x_Sim (x_K s0) none l q_y94 q_c94 2 (some .boolean) q_w94 q.1 q.2 := by
  unfold q_k94_0
  refine List.forall_mem_cons.2 ⟨s_aload_n (k := 0) (by decide +kernel) rfl, ?_⟩
  refine List.forall_mem_cons.2 ⟨s_iconst (k := 0) (by decide +kernel) (by decide +kernel), ?_⟩
  refine List.forall_mem_cons.2 ⟨s_putfield (C := q_n8) (T := q_T8) (N := 39) (idx := 84) (ref := "ProofDeskModel") q_t8 (by decide +kernel) rfl q_in8 q_ty8 q_nm8 (by decide) (x_up mw_667) rfl rfl (by decide +kernel), ?_⟩
  refine List.forall_mem_cons.2 ⟨s_iload_n (k := 1) (by decide +kernel) rfl, ?_⟩
  refine List.forall_mem_cons.2 ⟨s_bipush (k := 32) (by decide +kernel) (by decide +kernel), ?_⟩
  refine List.forall_mem_cons.2 ⟨s_icmp_lt (off := 18) (by decide +kernel) (by decide), ?_⟩
  refine List.forall_mem_cons.2 ⟨s_iload_n (k := 1) (by decide +kernel) rfl, ?_⟩
  refine List.forall_mem_cons.2 ⟨s_bipush (k := 126) (by decide +kernel) (by decide +kernel), ?_⟩
  refine List.forall_mem_cons.2 ⟨s_icmp_gt (off := 12) (by decide +kernel) (by decide), ?_⟩
  refine List.forall_mem_cons.2 ⟨s_aload_n (k := 0) (by decide +kernel) rfl, ?_⟩
  refine List.forall_mem_cons.2 ⟨s_getfield (C := q_n8) (T := q_T8) (N := 39) (idx := 91) (ref := "ProofDeskModel") (by decide +kernel) rfl q_in8 (by decide) (x_up mw_669) rfl, ?_⟩
  refine List.forall_mem_cons.2 ⟨s_bipush (k := 60) (by decide +kernel) (by decide +kernel), ?_⟩
  refine List.forall_mem_cons.2 ⟨s_icmp_lt (off := 5) (by decide +kernel) (by decide), ?_⟩
  refine List.forall_mem_cons.2 ⟨s_iconst (k := 0) (by decide +kernel) (by decide +kernel), ?_⟩
  refine List.forall_mem_cons.2 ⟨s_ireturn (ty := .boolean) (by decide +kernel) rfl, ?_⟩
  refine List.forall_mem_cons.2 ⟨s_aload_n (k := 0) (by decide +kernel) rfl, ?_⟩
  refine List.forall_mem_cons.2 ⟨s_getfield (C := q_n8) (T := q_T8) (N := 39) (idx := 38) (ref := "ProofDeskModel") (by decide +kernel) rfl q_in8 (by decide) (x_up mw_652) rfl, ?_⟩
  refine List.forall_mem_cons.2 ⟨s_aload_n (k := 0) (by decide +kernel) rfl, ?_⟩
  refine List.forall_mem_cons.2 ⟨s_getfield (C := q_n8) (T := q_T8) (N := 39) (idx := 91) (ref := "ProofDeskModel") (by decide +kernel) rfl q_in8 (by decide) (x_up mw_669) rfl, ?_⟩
  refine List.forall_mem_cons.2 ⟨s_iload_n (k := 1) (by decide +kernel) rfl, ?_⟩
  refine List.forall_mem_cons.2 ⟨s_cast (by decide +kernel) rfl, ?_⟩
  refine List.forall_mem_cons.2 ⟨s_aload_n (k := 0) (by decide +kernel) rfl, ?_⟩
  refine List.forall_mem_cons.2 ⟨s_dup (by decide +kernel), ?_⟩
  refine List.forall_mem_cons.2 ⟨s_getfield (C := q_n8) (T := q_T8) (N := 39) (idx := 91) (ref := "ProofDeskModel") (by decide +kernel) rfl q_in8 (by decide) (x_up mw_669) rfl, ?_⟩
  refine List.forall_mem_cons.2 ⟨s_iconst (k := 1) (by decide +kernel) (by decide +kernel), ?_⟩
  refine List.forall_mem_cons.2 ⟨s_iadd (by decide +kernel), ?_⟩
  refine List.forall_mem_cons.2 ⟨s_putfield (C := q_n8) (T := q_T8) (N := 39) (idx := 91) (ref := "ProofDeskModel") q_t8 (by decide +kernel) rfl q_in8 q_ty8 q_nm8 (by decide) (x_up mw_669) rfl rfl (by decide +kernel), ?_⟩
  refine List.forall_mem_cons.2 ⟨s_iconst (k := 1) (by decide +kernel) (by decide +kernel), ?_⟩
  refine List.forall_mem_cons.2 ⟨s_ireturn (ty := .boolean) (by decide +kernel) rfl, ?_⟩
  exact fun _ h => absurd h List.not_mem_nil
def q_k94 : List (Nat × xO) := q_k94_0
theorem q_s94 (l : Launch) (s0 : State) : ∀ q ∈ q_k94, x_Sim (x_K s0) none l q_y94 q_c94 2 (some .boolean) q_w94 q.1 q.2 := q_s94_0 l s0
/-- ProofDeskModel.here()C -/
def q_k95_0 : List (Nat × xO) := [(0, x_lda 1 0), (1, x_gf 4 8 14), (4, x_lda 5 0), (5, x_gf 8 8 13), (8, x_st (x_icge 23 11)), (11, x_lda 12 0), (12, x_gf 15 8 12), (15, x_lda 16 0), (16, x_gf 19 8 14), (19, x_ald 20 2), (20, x_st (x_goto 24)), (23, x_st (x_push 24 (.int (0)))), (24, x_ri (.char))]
set_option maxRecDepth 100000 in
set_option maxHeartbeats 4000000 in
theorem q_s95_0 (l : Launch) (s0 : State) : ∀ q ∈ q_k95_0, x_Sim (x_K s0) none l q_y95 q_c95 1 (some .char) q_w95 q.1 q.2 := by
  unfold q_k95_0
  refine List.forall_mem_cons.2 ⟨s_aload_n (k := 0) (by decide +kernel) rfl, ?_⟩
  refine List.forall_mem_cons.2 ⟨s_getfield (C := q_n8) (T := q_T8) (N := 39) (idx := 94) (ref := "ProofDeskModel") (by decide +kernel) rfl q_in8 (by decide) (x_up mw_670) rfl, ?_⟩
  refine List.forall_mem_cons.2 ⟨s_aload_n (k := 0) (by decide +kernel) rfl, ?_⟩
  refine List.forall_mem_cons.2 ⟨s_getfield (C := q_n8) (T := q_T8) (N := 39) (idx := 91) (ref := "ProofDeskModel") (by decide +kernel) rfl q_in8 (by decide) (x_up mw_669) rfl, ?_⟩
  refine List.forall_mem_cons.2 ⟨s_icmp_ge (off := 15) (by decide +kernel) (by decide), ?_⟩
  refine List.forall_mem_cons.2 ⟨s_aload_n (k := 0) (by decide +kernel) rfl, ?_⟩
  refine List.forall_mem_cons.2 ⟨s_getfield (C := q_n8) (T := q_T8) (N := 39) (idx := 38) (ref := "ProofDeskModel") (by decide +kernel) rfl q_in8 (by decide) (x_up mw_652) rfl, ?_⟩
  refine List.forall_mem_cons.2 ⟨s_aload_n (k := 0) (by decide +kernel) rfl, ?_⟩
  refine List.forall_mem_cons.2 ⟨s_getfield (C := q_n8) (T := q_T8) (N := 39) (idx := 94) (ref := "ProofDeskModel") (by decide +kernel) rfl q_in8 (by decide) (x_up mw_670) rfl, ?_⟩
  refine List.forall_mem_cons.2 ⟨s_cald (by decide +kernel) rfl, ?_⟩
  refine List.forall_mem_cons.2 ⟨s_goto (off := 4) (by decide +kernel) (by decide), ?_⟩
  refine List.forall_mem_cons.2 ⟨s_iconst (k := 0) (by decide +kernel) (by decide +kernel), ?_⟩
  refine List.forall_mem_cons.2 ⟨s_ireturn (ty := .char) (by decide +kernel) rfl, ?_⟩
  exact fun _ h => absurd h List.not_mem_nil
def q_k95 : List (Nat × xO) := q_k95_0
theorem q_s95 (l : Launch) (s0 : State) : ∀ q ∈ q_k95, x_Sim (x_K s0) none l q_y95 q_c95 1 (some .char) q_w95 q.1 q.2 := q_s95_0 l s0
/-- ProofDeskModel.sees(C)Z -/
def q_k96_0 : List (Nat × xO) := [(0, x_lda 1 0), (1, x_cv 4 95 1 8), (4, x_ldi 5 1), (5, x_st (x_icne 12 8)), (8, x_st (x_push 9 (.int (1)))), (9, x_st (x_goto 13)), (12, x_st (x_push 13 (.int (0)))), (13, x_sti 14 2), (14, x_lda 15 0), (15, x_ldi 16 2), (16, x_st (x_ifeq 28 19)), (19, x_lda 20 0), (20, x_gf 23 8 14), (23, x_st (x_push 24 (.int (1)))), (24, x_st (x_bin 25 (fun a b => a + b))), (25, x_st (x_goto 32)), (28, x_lda 29 0), (29, x_gf 32 8 14), (32, x_pf 35 8 14 (.int)), (35, x_ldi 36 2), (36, x_ri (.boolean))]
set_option maxRecDepth 100000 in
set_option maxHeartbeats 4000000 in
theorem q_s96_0 (l : Launch) (s0 : State) : ∀ q ∈ q_k96_0, x_Sim (x_K s0) none l q_y96 q_c96 3 (some .boolean) q_w96 q.1 q.2 := by
  unfold q_k96_0
  refine List.forall_mem_cons.2 ⟨s_aload_n (k := 0) (by decide +kernel) rfl, ?_⟩
  refine List.forall_mem_cons.2 ⟨s_invokevirtual (idx := 97) (M := 95) (k := 0) (ci := 8) (C := q_n8) (T := q_T8) (N := 39) (ym := q_y95) (wm := q_w95) (by decide +kernel) rfl rfl rfl (x_gdV mw_672 mw_673 mw_674 mw_675 mw_671) rfl (by decide +kernel) (by decide), ?_⟩
  refine List.forall_mem_cons.2 ⟨s_iload_n (k := 1) (by decide +kernel) rfl, ?_⟩
  refine List.forall_mem_cons.2 ⟨s_icmp_ne (off := 7) (by decide +kernel) (by decide), ?_⟩
  refine List.forall_mem_cons.2 ⟨s_iconst (k := 1) (by decide +kernel) (by decide +kernel), ?_⟩
  refine List.forall_mem_cons.2 ⟨s_goto (off := 4) (by decide +kernel) (by decide), ?_⟩
  refine List.forall_mem_cons.2 ⟨s_iconst (k := 0) (by decide +kernel) (by decide +kernel), ?_⟩
  refine List.forall_mem_cons.2 ⟨s_istore_n (k := 2) (by decide +kernel) rfl (by decide), ?_⟩
  refine List.forall_mem_cons.2 ⟨s_aload_n (k := 0) (by decide +kernel) rfl, ?_⟩
  refine List.forall_mem_cons.2 ⟨s_iload_n (k := 2) (by decide +kernel) rfl, ?_⟩
  refine List.forall_mem_cons.2 ⟨s_ifeq (off := 12) (by decide +kernel) (by decide), ?_⟩
  refine List.forall_mem_cons.2 ⟨s_aload_n (k := 0) (by decide +kernel) rfl, ?_⟩
  refine List.forall_mem_cons.2 ⟨s_getfield (C := q_n8) (T := q_T8) (N := 39) (idx := 94) (ref := "ProofDeskModel") (by decide +kernel) rfl q_in8 (by decide) (x_up mw_670) rfl, ?_⟩
  refine List.forall_mem_cons.2 ⟨s_iconst (k := 1) (by decide +kernel) (by decide +kernel), ?_⟩
  refine List.forall_mem_cons.2 ⟨s_iadd (by decide +kernel), ?_⟩
  refine List.forall_mem_cons.2 ⟨s_goto (off := 7) (by decide +kernel) (by decide), ?_⟩
  refine List.forall_mem_cons.2 ⟨s_aload_n (k := 0) (by decide +kernel) rfl, ?_⟩
  refine List.forall_mem_cons.2 ⟨s_getfield (C := q_n8) (T := q_T8) (N := 39) (idx := 94) (ref := "ProofDeskModel") (by decide +kernel) rfl q_in8 (by decide) (x_up mw_670) rfl, ?_⟩
  refine List.forall_mem_cons.2 ⟨s_putfield (C := q_n8) (T := q_T8) (N := 39) (idx := 94) (ref := "ProofDeskModel") q_t8 (by decide +kernel) rfl q_in8 q_ty8 q_nm8 (by decide) (x_up mw_670) rfl rfl (by decide +kernel), ?_⟩
  refine List.forall_mem_cons.2 ⟨s_iload_n (k := 2) (by decide +kernel) rfl, ?_⟩
  refine List.forall_mem_cons.2 ⟨s_ireturn (ty := .boolean) (by decide +kernel) rfl, ?_⟩
  exact fun _ h => absurd h List.not_mem_nil
def q_k96 : List (Nat × xO) := q_k96_0
theorem q_s96 (l : Launch) (s0 : State) : ∀ q ∈ q_k96, x_Sim (x_K s0) none l q_y96 q_c96 3 (some .boolean) q_w96 q.1 q.2 := q_s96_0 l s0
/-- ProofDeskModel.isSmall(C)Z -/
def q_k97_0 : List (Nat × xO) := [(0, x_ldi 1 0), (1, x_st (x_push 3 (.int (97)))), (3, x_st (x_iclt 16 6)), (6, x_ldi 7 0), (7, x_st (x_push 9 (.int (122)))), (9, x_st (x_icgt 16 12)), (12, x_st (x_push 13 (.int (1)))), (13, x_st (x_goto 17)), (16, x_st (x_push 17 (.int (0)))), (17, x_ri (.boolean))]
set_option maxRecDepth 100000 in
set_option maxHeartbeats 4000000 in
theorem q_s97_0 (l : Launch) (s0 : State) : ∀ q ∈ q_k97_0, x_Sim (x_K s0) none l q_y97 q_c97 1 (some .boolean) q_w97 q.1 q.2 := by
  unfold q_k97_0
  refine List.forall_mem_cons.2 ⟨s_iload_n (k := 0) (by decide +kernel) rfl, ?_⟩
  refine List.forall_mem_cons.2 ⟨s_bipush (k := 97) (by decide +kernel) (by decide +kernel), ?_⟩
  refine List.forall_mem_cons.2 ⟨s_icmp_lt (off := 13) (by decide +kernel) (by decide), ?_⟩
  refine List.forall_mem_cons.2 ⟨s_iload_n (k := 0) (by decide +kernel) rfl, ?_⟩
  refine List.forall_mem_cons.2 ⟨s_bipush (k := 122) (by decide +kernel) (by decide +kernel), ?_⟩
  refine List.forall_mem_cons.2 ⟨s_icmp_gt (off := 7) (by decide +kernel) (by decide), ?_⟩
  refine List.forall_mem_cons.2 ⟨s_iconst (k := 1) (by decide +kernel) (by decide +kernel), ?_⟩
  refine List.forall_mem_cons.2 ⟨s_goto (off := 4) (by decide +kernel) (by decide), ?_⟩
  refine List.forall_mem_cons.2 ⟨s_iconst (k := 0) (by decide +kernel) (by decide +kernel), ?_⟩
  refine List.forall_mem_cons.2 ⟨s_ireturn (ty := .boolean) (by decide +kernel) rfl, ?_⟩
  exact fun _ h => absurd h List.not_mem_nil
def q_k97 : List (Nat × xO) := q_k97_0
theorem q_s97 (l : Launch) (s0 : State) : ∀ q ∈ q_k97, x_Sim (x_K s0) none l q_y97 q_c97 1 (some .boolean) q_w97 q.1 q.2 := q_s97_0 l s0
/-- ProofDeskModel.put(I)V -/
def q_k98_0 : List (Nat × xO) := [(0, x_lda 1 0), (1, x_gf 4 8 17), (4, x_lda 5 0), (5, x_gf 8 8 21), (8, x_ldi 9 1), (9, x_ast 10 0 (fun x => x)), (10, x_lda 11 0), (11, x_st (x_dup 12)), (12, x_gf 15 8 21), (15, x_st (x_push 16 (.int (1)))), (16, x_st (x_bin 17 (fun a b => a + b))), (17, x_pf 20 8 21 (.int)), (20, x_rv)]
set_option maxRecDepth 100000 in
set_option maxHeartbeats 4000000 in
theorem q_s98_0 (l : Launch) (s0 : State) : ∀ q ∈ q_k98_0, x_Sim (x_K s0) none l q_y98 q_c98 2 none q_w98 q.1 q.2 := by
  unfold q_k98_0
  refine List.forall_mem_cons.2 ⟨s_aload_n (k := 0) (by decide +kernel) rfl, ?_⟩
  refine List.forall_mem_cons.2 ⟨s_getfield (C := q_n8) (T := q_T8) (N := 39) (idx := 42) (ref := "ProofDeskModel") (by decide +kernel) rfl q_in8 (by decide) (x_up mw_653) rfl, ?_⟩
  refine List.forall_mem_cons.2 ⟨s_aload_n (k := 0) (by decide +kernel) rfl, ?_⟩
  refine List.forall_mem_cons.2 ⟨s_getfield (C := q_n8) (T := q_T8) (N := 39) (idx := 101) (ref := "ProofDeskModel") (by decide +kernel) rfl q_in8 (by decide) (x_up mw_676) rfl, ?_⟩
  refine List.forall_mem_cons.2 ⟨s_iload_n (k := 1) (by decide +kernel) rfl, ?_⟩
  refine List.forall_mem_cons.2 ⟨s_iast (by decide +kernel) rfl, ?_⟩
  refine List.forall_mem_cons.2 ⟨s_aload_n (k := 0) (by decide +kernel) rfl, ?_⟩
  refine List.forall_mem_cons.2 ⟨s_dup (by decide +kernel), ?_⟩
  refine List.forall_mem_cons.2 ⟨s_getfield (C := q_n8) (T := q_T8) (N := 39) (idx := 101) (ref := "ProofDeskModel") (by decide +kernel) rfl q_in8 (by decide) (x_up mw_676) rfl, ?_⟩
  refine List.forall_mem_cons.2 ⟨s_iconst (k := 1) (by decide +kernel) (by decide +kernel), ?_⟩
  refine List.forall_mem_cons.2 ⟨s_iadd (by decide +kernel), ?_⟩
  refine List.forall_mem_cons.2 ⟨s_putfield (C := q_n8) (T := q_T8) (N := 39) (idx := 101) (ref := "ProofDeskModel") q_t8 (by decide +kernel) rfl q_in8 q_ty8 q_nm8 (by decide) (x_up mw_676) rfl rfl (by decide +kernel), ?_⟩
  refine List.forall_mem_cons.2 ⟨s_return (by decide +kernel) rfl, ?_⟩
  exact fun _ h => absurd h List.not_mem_nil
def q_k98 : List (Nat × xO) := q_k98_0
theorem q_s98 (l : Launch) (s0 : State) : ∀ q ∈ q_k98, x_Sim (x_K s0) none l q_y98 q_c98 2 none q_w98 q.1 q.2 := q_s98_0 l s0
/-- ProofDeskModel.uses(II)V -/
def q_k99_0 : List (Nat × xO) := [(0, x_lda 1 0), (1, x_lda 2 0), (2, x_gf 5 8 16), (5, x_st (x_ifne 27 8)), (8, x_lda 9 0), (9, x_gf 12 8 11), (12, x_ldi 13 1), (13, x_ald 14 0), (14, x_st (x_ifeq 31 17)), (17, x_lda 18 0), (18, x_gf 21 8 11), (21, x_ldi 22 1), (22, x_ald 23 0), (23, x_ldi 24 2), (24, x_st (x_iceq 31 27)), (27, x_st (x_push 28 (.int (1)))), (28, x_st (x_goto 32)), (31, x_st (x_push 32 (.int (0)))), (32, x_pf 35 8 16 (.boolean)), (35, x_lda 36 0), (36, x_gf 39 8 11), (39, x_ldi 40 1), (40, x_ldi 41 2), (41, x_ast 42 0 (fun x => x)), (42, x_rv)]
set_option maxRecDepth 100000 in
set_option maxHeartbeats 4000000 in
theorem q_s99_0 (l : Launch) (s0 : State) : ∀ q ∈ q_k99_0, x_Sim (x_K s0) none l q_y99 q_c99 3 none q_w99 q.1 q.2 := by
  unfold q_k99_0
  refine List.forall_mem_cons.2 ⟨s_aload_n (k := 0) (by decide +kernel) rfl, ?_⟩
  refine List.forall_mem_cons.2 ⟨s_aload_n (k := 0) (by decide +kernel) rfl, ?_⟩
  refine List.forall_mem_cons.2 ⟨s_getfield (C := q_n8) (T := q_T8) (N := 39) (idx := 104) (ref := "ProofDeskModel") (by decide +kernel) rfl q_in8 (by decide) (x_up mw_677) rfl, ?_⟩
  refine List.forall_mem_cons.2 ⟨s_ifne (off := 22) (by decide +kernel) (by decide), ?_⟩
  refine List.forall_mem_cons.2 ⟨s_aload_n (k := 0) (by decide +kernel) rfl, ?_⟩
  refine List.forall_mem_cons.2 ⟨s_getfield (C := q_n8) (T := q_T8) (N := 39) (idx := 35) (ref := "ProofDeskModel") (by decide +kernel) rfl q_in8 (by decide) (x_up mw_651) rfl, ?_⟩
  refine List.forall_mem_cons.2 ⟨s_iload_n (k := 1) (by decide +kernel) rfl, ?_⟩
  refine List.forall_mem_cons.2 ⟨s_iald (by decide +kernel) rfl, ?_⟩
  refine List.forall_mem_cons.2 ⟨s_ifeq (off := 17) (by decide +kernel) (by decide), ?_⟩
  refine List.forall_mem_cons.2 ⟨s_aload_n (k := 0) (by decide +kernel) rfl, ?_⟩
  refine List.forall_mem_cons.2 ⟨s_getfield (C := q_n8) (T := q_T8) (N := 39) (idx := 35) (ref := "ProofDeskModel") (by decide +kernel) rfl q_in8 (by decide) (x_up mw_651) rfl, ?_⟩
  refine List.forall_mem_cons.2 ⟨s_iload_n (k := 1) (by decide +kernel) rfl, ?_⟩
  refine List.forall_mem_cons.2 ⟨s_iald (by decide +kernel) rfl, ?_⟩
  refine List.forall_mem_cons.2 ⟨s_iload_n (k := 2) (by decide +kernel) rfl, ?_⟩
  refine List.forall_mem_cons.2 ⟨s_icmp_eq (off := 7) (by decide +kernel) (by decide), ?_⟩
  refine List.forall_mem_cons.2 ⟨s_iconst (k := 1) (by decide +kernel) (by decide +kernel), ?_⟩
  refine List.forall_mem_cons.2 ⟨s_goto (off := 4) (by decide +kernel) (by decide), ?_⟩
  refine List.forall_mem_cons.2 ⟨s_iconst (k := 0) (by decide +kernel) (by decide +kernel), ?_⟩
  refine List.forall_mem_cons.2 ⟨s_putfield (C := q_n8) (T := q_T8) (N := 39) (idx := 104) (ref := "ProofDeskModel") q_t8 (by decide +kernel) rfl q_in8 q_ty8 q_nm8 (by decide) (x_up mw_677) rfl rfl (by decide +kernel), ?_⟩
  refine List.forall_mem_cons.2 ⟨s_aload_n (k := 0) (by decide +kernel) rfl, ?_⟩
  refine List.forall_mem_cons.2 ⟨s_getfield (C := q_n8) (T := q_T8) (N := 39) (idx := 35) (ref := "ProofDeskModel") (by decide +kernel) rfl q_in8 (by decide) (x_up mw_651) rfl, ?_⟩
  refine List.forall_mem_cons.2 ⟨s_iload_n (k := 1) (by decide +kernel) rfl, ?_⟩
  refine List.forall_mem_cons.2 ⟨s_iload_n (k := 2) (by decide +kernel) rfl, ?_⟩
  refine List.forall_mem_cons.2 ⟨s_iast (by decide +kernel) rfl, ?_⟩
  refine List.forall_mem_cons.2 ⟨s_return (by decide +kernel) rfl, ?_⟩
  exact fun _ h => absurd h List.not_mem_nil
def q_k99 : List (Nat × xO) := q_k99_0
theorem q_s99 (l : Launch) (s0 : State) : ∀ q ∈ q_k99, x_Sim (x_K s0) none l q_y99 q_c99 3 none q_w99 q.1 q.2 := q_s99_0 l s0
/-- ProofDeskModel.term()V -/
def q_k100_0 : List (Nat × xO) := [(0, x_st (x_push 1 (.int (0)))), (1, x_sti 2 1), (2, x_st (x_push 3 (.int (1)))), (3, x_sti 4 2), (4, x_ldi 5 2), (5, x_st (x_ifeq 257 8)), (8, x_lda 9 0), (9, x_gf 12 8 15), (12, x_st (x_ifne 257 15)), (15, x_lda 16 0), (16, x_cv 19 95 1 8), (19, x_sti 20 3), (20, x_ldi 21 3), (21, x_st (x_push 23 (.int (65)))), (23, x_st (x_iclt 55 26)), (26, x_ldi 27 3), (27, x_st (x_push 29 (.int (90)))), (29, x_st (x_icgt 55 32)), (32, x_lda 33 0), (33, x_st (x_dup 34)), (34, x_gf 37 8 14), (37, x_st (x_push 38 (.int (1)))), (38, x_st (x_bin 39 (fun a b => a + b))), (39, x_pf 42 8 14 (.int)), (42, x_lda 43 0), (43, x_ldi 44 3), (44, x_st (x_push 46 (.int (65)))), (46, x_st (x_bin 47 (fun a b => a - b))), (47, x_cv 50 98 2 8), (50, x_st (x_push 51 (.int (0)))), (51, x_sti 52 2), (52, x_st (x_goto 134)), (55, x_ldi 56 3), (56, x_cl_ 59 97 1), (59, x_st (x_ifeq 129 62)), (62, x_lda 63 0), (63, x_st (x_dup 64)), (64, x_gf 67 8 14), (67, x_st (x_push 68 (.int (1)))), (68, x_st (x_bin 69 (fun a b => a + b)))]
set_option maxRecDepth 100000 in
set_option maxHeartbeats 4000000 in
theorem q_s100_0 (l : Launch) (s0 : State) : ∀ q ∈ q_k100_0, x_Sim (x_K s0) none l q_y100 q_c100 5 none q_w100 q.1 q.2 := by
  unfold q_k100_0
  refine List.forall_mem_cons.2 ⟨s_iconst (k := 0) (by decide +kernel) (by decide +kernel), ?_⟩
  refine List.forall_mem_cons.2 ⟨s_istore_n (k := 1) (by decide +kernel) rfl (by decide), ?_⟩
  refine List.forall_mem_cons.2 ⟨s_iconst (k := 1) (by decide +kernel) (by decide +kernel), ?_⟩
  refine List.forall_mem_cons.2 ⟨s_istore_n (k := 2) (by decide +kernel) rfl (by decide), ?_⟩
  refine List.forall_mem_cons.2 ⟨s_iload_n (k := 2) (by decide +kernel) rfl, ?_⟩
  refine List.forall_mem_cons.2 ⟨s_ifeq (off := 252) (by decide +kernel) (by decide), ?_⟩
  refine List.forall_mem_cons.2 ⟨s_aload_n (k := 0) (by decide +kernel) rfl, ?_⟩
  refine List.forall_mem_cons.2 ⟨s_getfield (C := q_n8) (T := q_T8) (N := 39) (idx := 108) (ref := "ProofDeskModel") (by decide +kernel) rfl q_in8 (by decide) (x_up mw_678) rfl, ?_⟩
  refine List.forall_mem_cons.2 ⟨s_ifne (off := 245) (by decide +kernel) (by decide), ?_⟩
  refine List.forall_mem_cons.2 ⟨s_aload_n (k := 0) (by decide +kernel) rfl, ?_⟩
  refine List.forall_mem_cons.2 ⟨s_invokevirtual (idx := 97) (M := 95) (k := 0) (ci := 8) (C := q_n8) (T := q_T8) (N := 39) (ym := q_y95) (wm := q_w95) (by decide +kernel) rfl rfl rfl (x_gdV mw_672 mw_673 mw_674 mw_675 mw_671) rfl (by decide +kernel) (by decide), ?_⟩
  refine List.forall_mem_cons.2 ⟨s_istore_n (k := 3) (by decide +kernel) rfl (by decide), ?_⟩
  refine List.forall_mem_cons.2 ⟨s_iload_n (k := 3) (by decide +kernel) rfl, ?_⟩
  refine List.forall_mem_cons.2 ⟨s_bipush (k := 65) (by decide +kernel) (by decide +kernel), ?_⟩
  refine List.forall_mem_cons.2 ⟨s_icmp_lt (off := 32) (by decide +kernel) (by decide), ?_⟩
  refine List.forall_mem_cons.2 ⟨s_iload_n (k := 3) (by decide +kernel) rfl, ?_⟩
  refine List.forall_mem_cons.2 ⟨s_bipush (k := 90) (by decide +kernel) (by decide +kernel), ?_⟩
  refine List.forall_mem_cons.2 ⟨s_icmp_gt (off := 26) (by decide +kernel) (by decide), ?_⟩
  refine List.forall_mem_cons.2 ⟨s_aload_n (k := 0) (by decide +kernel) rfl, ?_⟩
  refine List.forall_mem_cons.2 ⟨s_dup (by decide +kernel), ?_⟩
  refine List.forall_mem_cons.2 ⟨s_getfield (C := q_n8) (T := q_T8) (N := 39) (idx := 94) (ref := "ProofDeskModel") (by decide +kernel) rfl q_in8 (by decide) (x_up mw_670) rfl, ?_⟩
  refine List.forall_mem_cons.2 ⟨s_iconst (k := 1) (by decide +kernel) (by decide +kernel), ?_⟩
  refine List.forall_mem_cons.2 ⟨s_iadd (by decide +kernel), ?_⟩
  refine List.forall_mem_cons.2 ⟨s_putfield (C := q_n8) (T := q_T8) (N := 39) (idx := 94) (ref := "ProofDeskModel") q_t8 (by decide +kernel) rfl q_in8 q_ty8 q_nm8 (by decide) (x_up mw_670) rfl rfl (by decide +kernel), ?_⟩
  refine List.forall_mem_cons.2 ⟨s_aload_n (k := 0) (by decide +kernel) rfl, ?_⟩
  refine List.forall_mem_cons.2 ⟨s_iload_n (k := 3) (by decide +kernel) rfl, ?_⟩
  refine List.forall_mem_cons.2 ⟨s_bipush (k := 65) (by decide +kernel) (by decide +kernel), ?_⟩
  refine List.forall_mem_cons.2 ⟨s_isub (by decide +kernel), ?_⟩
  refine List.forall_mem_cons.2 ⟨s_invokevirtual (idx := 111) (M := 98) (k := 1) (ci := 8) (C := q_n8) (T := q_T8) (N := 39) (ym := q_y98) (wm := q_w98) (by decide +kernel) rfl rfl rfl (x_gdV mw_680 mw_681 mw_682 mw_675 mw_679) rfl (by decide +kernel) (by decide), ?_⟩
  refine List.forall_mem_cons.2 ⟨s_iconst (k := 0) (by decide +kernel) (by decide +kernel), ?_⟩
  refine List.forall_mem_cons.2 ⟨s_istore_n (k := 2) (by decide +kernel) rfl (by decide), ?_⟩
  refine List.forall_mem_cons.2 ⟨s_goto (off := 82) (by decide +kernel) (by decide), ?_⟩
  refine List.forall_mem_cons.2 ⟨s_iload_n (k := 3) (by decide +kernel) rfl, ?_⟩
  refine List.forall_mem_cons.2 ⟨s_invokestatic (idx := 115) (M := 97) (ym := q_y97) (wm := q_w97) (by decide +kernel) rfl rfl (x_gdS mw_684 mw_685 mw_675 mw_683) rfl (by decide +kernel) (by decide), ?_⟩
  refine List.forall_mem_cons.2 ⟨s_ifeq (off := 70) (by decide +kernel) (by decide), ?_⟩
  refine List.forall_mem_cons.2 ⟨s_aload_n (k := 0) (by decide +kernel) rfl, ?_⟩
  refine List.forall_mem_cons.2 ⟨s_dup (by decide +kernel), ?_⟩
  refine List.forall_mem_cons.2 ⟨s_getfield (C := q_n8) (T := q_T8) (N := 39) (idx := 94) (ref := "ProofDeskModel") (by decide +kernel) rfl q_in8 (by decide) (x_up mw_670) rfl, ?_⟩
  refine List.forall_mem_cons.2 ⟨s_iconst (k := 1) (by decide +kernel) (by decide +kernel), ?_⟩
  refine List.forall_mem_cons.2 ⟨s_iadd (by decide +kernel), ?_⟩
  exact fun _ h => absurd h List.not_mem_nil
def q_k100_1 : List (Nat × xO) := [(69, x_pf 72 8 14 (.int)), (72, x_lda 73 0), (73, x_st (x_push 75 (.int (100)))), (75, x_st (x_push 76 (.int (4)))), (76, x_ldi 77 3), (77, x_st (x_push 79 (.int (97)))), (79, x_st (x_bin 80 (fun a b => a - b))), (80, x_st (x_bin 81 (fun a b => a * b))), (81, x_st (x_bin 82 (fun a b => a + b))), (82, x_cv 85 98 2 8), (85, x_lda 86 0), (86, x_st (x_push 88 (.int (40)))), (88, x_cv 91 96 2 8), (91, x_sti 92 2), (92, x_ldi 93 2), (93, x_st (x_ifeq 134 96)), (96, x_lda 97 0), (97, x_gf 100 8 33), (100, x_ldi 101 1), (101, x_lda 102 0), (102, x_gf 105 8 21), (105, x_st (x_push 106 (.int (1)))), (106, x_st (x_bin 107 (fun a b => a - b))), (107, x_ast 108 0 (fun x => x)), (108, x_iinc 111 1 (1)), (111, x_lda 112 0), (112, x_gf 115 8 17), (115, x_lda 116 0), (116, x_gf 119 8 21), (119, x_st (x_push 120 (.int (1)))), (120, x_st (x_bin 121 (fun a b => a - b))), (121, x_st (x_dup2 122)), (122, x_ald 123 0), (123, x_st (x_push 124 (.int (1)))), (124, x_st (x_bin 125 (fun a b => a + b))), (125, x_ast 126 0 (fun x => x)), (126, x_st (x_goto 134)), (129, x_lda 130 0), (130, x_st (x_push 131 (.int (1)))), (131, x_pf 134 8 15 (.boolean))]
set_option maxRecDepth 100000 in
set_option maxHeartbeats 4000000 in
theorem q_s100_1 (l : Launch) (s0 : State) : ∀ q ∈ q_k100_1, x_Sim (x_K s0) none l q_y100 q_c100 5 none q_w100 q.1 q.2 := by
  unfold q_k100_1
  refine List.forall_mem_cons.2 ⟨s_putfield (C := q_n8) (T := q_T8) (N := 39) (idx := 94) (ref := "ProofDeskModel") q_t8 (by decide +kernel) rfl q_in8 q_ty8 q_nm8 (by decide) (x_up mw_670) rfl rfl (by decide +kernel), ?_⟩
  refine List.forall_mem_cons.2 ⟨s_aload_n (k := 0) (by decide +kernel) rfl, ?_⟩
  refine List.forall_mem_cons.2 ⟨s_bipush (k := 100) (by decide +kernel) (by decide +kernel), ?_⟩
  refine List.forall_mem_cons.2 ⟨s_iconst (k := 4) (by decide +kernel) (by decide +kernel), ?_⟩
  refine List.forall_mem_cons.2 ⟨s_iload_n (k := 3) (by decide +kernel) rfl, ?_⟩
  refine List.forall_mem_cons.2 ⟨s_bipush (k := 97) (by decide +kernel) (by decide +kernel), ?_⟩
  refine List.forall_mem_cons.2 ⟨s_isub (by decide +kernel), ?_⟩
  refine List.forall_mem_cons.2 ⟨s_imul (by decide +kernel), ?_⟩
  refine List.forall_mem_cons.2 ⟨s_iadd (by decide +kernel), ?_⟩
  refine List.forall_mem_cons.2 ⟨s_invokevirtual (idx := 111) (M := 98) (k := 1) (ci := 8) (C := q_n8) (T := q_T8) (N := 39) (ym := q_y98) (wm := q_w98) (by decide +kernel) rfl rfl rfl (x_gdV mw_680 mw_681 mw_682 mw_675 mw_679) rfl (by decide +kernel) (by decide), ?_⟩
  refine List.forall_mem_cons.2 ⟨s_aload_n (k := 0) (by decide +kernel) rfl, ?_⟩
  refine List.forall_mem_cons.2 ⟨s_bipush (k := 40) (by decide +kernel) (by decide +kernel), ?_⟩
  refine List.forall_mem_cons.2 ⟨s_invokevirtual (idx := 119) (M := 96) (k := 1) (ci := 8) (C := q_n8) (T := q_T8) (N := 39) (ym := q_y96) (wm := q_w96) (by decide +kernel) rfl rfl rfl (x_gdV mw_687 mw_688 mw_689 mw_675 mw_686) rfl (by decide +kernel) (by decide), ?_⟩
  refine List.forall_mem_cons.2 ⟨s_istore_n (k := 2) (by decide +kernel) rfl (by decide), ?_⟩
  refine List.forall_mem_cons.2 ⟨s_iload_n (k := 2) (by decide +kernel) rfl, ?_⟩
  refine List.forall_mem_cons.2 ⟨s_ifeq (off := 41) (by decide +kernel) (by decide), ?_⟩
  refine List.forall_mem_cons.2 ⟨s_aload_n (k := 0) (by decide +kernel) rfl, ?_⟩
  refine List.forall_mem_cons.2 ⟨s_getfield (C := q_n8) (T := q_T8) (N := 39) (idx := 75) (ref := "ProofDeskModel") (by decide +kernel) rfl q_in8 (by decide) (x_up mw_664) rfl, ?_⟩
  refine List.forall_mem_cons.2 ⟨s_iload_n (k := 1) (by decide +kernel) rfl, ?_⟩
  refine List.forall_mem_cons.2 ⟨s_aload_n (k := 0) (by decide +kernel) rfl, ?_⟩
  refine List.forall_mem_cons.2 ⟨s_getfield (C := q_n8) (T := q_T8) (N := 39) (idx := 101) (ref := "ProofDeskModel") (by decide +kernel) rfl q_in8 (by decide) (x_up mw_676) rfl, ?_⟩
  refine List.forall_mem_cons.2 ⟨s_iconst (k := 1) (by decide +kernel) (by decide +kernel), ?_⟩
  refine List.forall_mem_cons.2 ⟨s_isub (by decide +kernel), ?_⟩
  refine List.forall_mem_cons.2 ⟨s_iast (by decide +kernel) rfl, ?_⟩
  refine List.forall_mem_cons.2 ⟨s_iinc (k := 1) (by decide +kernel) (by decide +kernel) (by decide), ?_⟩
  refine List.forall_mem_cons.2 ⟨s_aload_n (k := 0) (by decide +kernel) rfl, ?_⟩
  refine List.forall_mem_cons.2 ⟨s_getfield (C := q_n8) (T := q_T8) (N := 39) (idx := 42) (ref := "ProofDeskModel") (by decide +kernel) rfl q_in8 (by decide) (x_up mw_653) rfl, ?_⟩
  refine List.forall_mem_cons.2 ⟨s_aload_n (k := 0) (by decide +kernel) rfl, ?_⟩
  refine List.forall_mem_cons.2 ⟨s_getfield (C := q_n8) (T := q_T8) (N := 39) (idx := 101) (ref := "ProofDeskModel") (by decide +kernel) rfl q_in8 (by decide) (x_up mw_676) rfl, ?_⟩
  refine List.forall_mem_cons.2 ⟨s_iconst (k := 1) (by decide +kernel) (by decide +kernel), ?_⟩
  refine List.forall_mem_cons.2 ⟨s_isub (by decide +kernel), ?_⟩
  refine List.forall_mem_cons.2 ⟨s_dup2 (by decide +kernel), ?_⟩
  refine List.forall_mem_cons.2 ⟨s_iald (by decide +kernel) rfl, ?_⟩
  refine List.forall_mem_cons.2 ⟨s_iconst (k := 1) (by decide +kernel) (by decide +kernel), ?_⟩
  refine List.forall_mem_cons.2 ⟨s_iadd (by decide +kernel), ?_⟩
  refine List.forall_mem_cons.2 ⟨s_iast (by decide +kernel) rfl, ?_⟩
  refine List.forall_mem_cons.2 ⟨s_goto (off := 8) (by decide +kernel) (by decide), ?_⟩
  refine List.forall_mem_cons.2 ⟨s_aload_n (k := 0) (by decide +kernel) rfl, ?_⟩
  refine List.forall_mem_cons.2 ⟨s_iconst (k := 1) (by decide +kernel) (by decide +kernel), ?_⟩
  refine List.forall_mem_cons.2 ⟨s_putfield (C := q_n8) (T := q_T8) (N := 39) (idx := 108) (ref := "ProofDeskModel") q_t8 (by decide +kernel) rfl q_in8 q_ty8 q_nm8 (by decide) (x_up mw_678) rfl rfl (by decide +kernel), ?_⟩
  exact fun _ h => absurd h List.not_mem_nil
def q_k100_2 : List (Nat × xO) := [(134, x_ldi 135 2), (135, x_st (x_ifne 254 138)), (138, x_ldi 139 1), (139, x_st (x_ifle 254 142)), (142, x_lda 143 0), (143, x_gf 146 8 15), (146, x_st (x_ifne 254 149)), (149, x_lda 150 0), (150, x_st (x_push 152 (.int (44)))), (152, x_cv 155 96 2 8), (155, x_st (x_ifeq 231 158)), (158, x_st (x_push 159 (.int (1)))), (159, x_sti 160 2), (160, x_lda 161 0), (161, x_gf 164 8 33), (164, x_ldi 165 1), (165, x_st (x_push 166 (.int (1)))), (166, x_st (x_bin 167 (fun a b => a - b))), (167, x_ald 168 0), (168, x_sti 170 4), (170, x_lda 171 0), (171, x_lda 172 0), (172, x_gf 175 8 17), (175, x_ldi 177 4), (177, x_ald 178 0), (178, x_st (x_push 180 (.int (100)))), (180, x_st (x_bin 181 (fun a b => a - b))), (181, x_st (x_push 182 (.int (4)))), (182, x_st (x_div 183 (fun a b => a - a / b * b))), (183, x_st (x_push 184 (.int (3)))), (184, x_st (x_icne 191 187)), (187, x_st (x_push 188 (.int (1)))), (188, x_st (x_goto 192)), (191, x_st (x_push 192 (.int (0)))), (192, x_pf 195 8 15 (.boolean)), (195, x_lda 196 0), (196, x_gf 199 8 17), (199, x_ldi 201 4), (201, x_lda 202 0), (202, x_gf 205 8 15)]
set_option maxRecDepth 100000 in
set_option maxHeartbeats 4000000 in
theorem q_s100_2 (l : Launch) (s0 : State) : ∀ q ∈ q_k100_2, x_Sim (x_K s0) none l q_y100 q_c100 5 none q_w100 q.1 q.2 := by
  unfold q_k100_2
  refine List.forall_mem_cons.2 ⟨s_iload_n (k := 2) (by decide +kernel) rfl, ?_⟩
  refine List.forall_mem_cons.2 ⟨s_ifne (off := 119) (by decide +kernel) (by decide), ?_⟩
  refine List.forall_mem_cons.2 ⟨s_iload_n (k := 1) (by decide +kernel) rfl, ?_⟩
  refine List.forall_mem_cons.2 ⟨s_ifle (off := 115) (by decide +kernel) (by decide), ?_⟩
  refine List.forall_mem_cons.2 ⟨s_aload_n (k := 0) (by decide +kernel) rfl, ?_⟩
  refine List.forall_mem_cons.2 ⟨s_getfield (C := q_n8) (T := q_T8) (N := 39) (idx := 108) (ref := "ProofDeskModel") (by decide +kernel) rfl q_in8 (by decide) (x_up mw_678) rfl, ?_⟩
  refine List.forall_mem_cons.2 ⟨s_ifne (off := 108) (by decide +kernel) (by decide), ?_⟩
  refine List.forall_mem_cons.2 ⟨s_aload_n (k := 0) (by decide +kernel) rfl, ?_⟩
  refine List.forall_mem_cons.2 ⟨s_bipush (k := 44) (by decide +kernel) (by decide +kernel), ?_⟩
  refine List.forall_mem_cons.2 ⟨s_invokevirtual (idx := 119) (M := 96) (k := 1) (ci := 8) (C := q_n8) (T := q_T8) (N := 39) (ym := q_y96) (wm := q_w96) (by decide +kernel) rfl rfl rfl (x_gdV mw_687 mw_688 mw_689 mw_675 mw_686) rfl (by decide +kernel) (by decide), ?_⟩
  refine List.forall_mem_cons.2 ⟨s_ifeq (off := 76) (by decide +kernel) (by decide), ?_⟩
  refine List.forall_mem_cons.2 ⟨s_iconst (k := 1) (by decide +kernel) (by decide +kernel), ?_⟩
  refine List.forall_mem_cons.2 ⟨s_istore_n (k := 2) (by decide +kernel) rfl (by decide), ?_⟩
  refine List.forall_mem_cons.2 ⟨s_aload_n (k := 0) (by decide +kernel) rfl, ?_⟩
  refine List.forall_mem_cons.2 ⟨s_getfield (C := q_n8) (T := q_T8) (N := 39) (idx := 75) (ref := "ProofDeskModel") (by decide +kernel) rfl q_in8 (by decide) (x_up mw_664) rfl, ?_⟩
  refine List.forall_mem_cons.2 ⟨s_iload_n (k := 1) (by decide +kernel) rfl, ?_⟩
  refine List.forall_mem_cons.2 ⟨s_iconst (k := 1) (by decide +kernel) (by decide +kernel), ?_⟩
  refine List.forall_mem_cons.2 ⟨s_isub (by decide +kernel), ?_⟩
  refine List.forall_mem_cons.2 ⟨s_iald (by decide +kernel) rfl, ?_⟩
  refine List.forall_mem_cons.2 ⟨s_istore (by decide +kernel) (by decide), ?_⟩
  refine List.forall_mem_cons.2 ⟨s_aload_n (k := 0) (by decide +kernel) rfl, ?_⟩
  refine List.forall_mem_cons.2 ⟨s_aload_n (k := 0) (by decide +kernel) rfl, ?_⟩
  refine List.forall_mem_cons.2 ⟨s_getfield (C := q_n8) (T := q_T8) (N := 39) (idx := 42) (ref := "ProofDeskModel") (by decide +kernel) rfl q_in8 (by decide) (x_up mw_653) rfl, ?_⟩
  refine List.forall_mem_cons.2 ⟨s_iload (by decide +kernel), ?_⟩
  refine List.forall_mem_cons.2 ⟨s_iald (by decide +kernel) rfl, ?_⟩
  refine List.forall_mem_cons.2 ⟨s_bipush (k := 100) (by decide +kernel) (by decide +kernel), ?_⟩
  refine List.forall_mem_cons.2 ⟨s_isub (by decide +kernel), ?_⟩
  refine List.forall_mem_cons.2 ⟨s_iconst (k := 4) (by decide +kernel) (by decide +kernel), ?_⟩
  refine List.forall_mem_cons.2 ⟨s_irem (by decide +kernel), ?_⟩
  refine List.forall_mem_cons.2 ⟨s_iconst (k := 3) (by decide +kernel) (by decide +kernel), ?_⟩
  refine List.forall_mem_cons.2 ⟨s_icmp_ne (off := 7) (by decide +kernel) (by decide), ?_⟩
  refine List.forall_mem_cons.2 ⟨s_iconst (k := 1) (by decide +kernel) (by decide +kernel), ?_⟩
  refine List.forall_mem_cons.2 ⟨s_goto (off := 4) (by decide +kernel) (by decide), ?_⟩
  refine List.forall_mem_cons.2 ⟨s_iconst (k := 0) (by decide +kernel) (by decide +kernel), ?_⟩
  refine List.forall_mem_cons.2 ⟨s_putfield (C := q_n8) (T := q_T8) (N := 39) (idx := 108) (ref := "ProofDeskModel") q_t8 (by decide +kernel) rfl q_in8 q_ty8 q_nm8 (by decide) (x_up mw_678) rfl rfl (by decide +kernel), ?_⟩
  refine List.forall_mem_cons.2 ⟨s_aload_n (k := 0) (by decide +kernel) rfl, ?_⟩
  refine List.forall_mem_cons.2 ⟨s_getfield (C := q_n8) (T := q_T8) (N := 39) (idx := 42) (ref := "ProofDeskModel") (by decide +kernel) rfl q_in8 (by decide) (x_up mw_653) rfl, ?_⟩
  refine List.forall_mem_cons.2 ⟨s_iload (by decide +kernel), ?_⟩
  refine List.forall_mem_cons.2 ⟨s_aload_n (k := 0) (by decide +kernel) rfl, ?_⟩
  refine List.forall_mem_cons.2 ⟨s_getfield (C := q_n8) (T := q_T8) (N := 39) (idx := 108) (ref := "ProofDeskModel") (by decide +kernel) rfl q_in8 (by decide) (x_up mw_678) rfl, ?_⟩
  exact fun _ h => absurd h List.not_mem_nil
def q_k100_3 : List (Nat × xO) := [(205, x_st (x_ifeq 218 208)), (208, x_lda 209 0), (209, x_gf 212 8 17), (212, x_ldi 214 4), (214, x_ald 215 0), (215, x_st (x_goto 227)), (218, x_lda 219 0), (219, x_gf 222 8 17), (222, x_ldi 224 4), (224, x_ald 225 0), (225, x_st (x_push 226 (.int (1)))), (226, x_st (x_bin 227 (fun a b => a + b))), (227, x_ast 228 0 (fun x => x)), (228, x_st (x_goto 134)), (231, x_lda 232 0), (232, x_st (x_push 234 (.int (41)))), (234, x_cv 237 96 2 8), (237, x_st (x_ifeq 246 240)), (240, x_iinc 243 1 (-1)), (243, x_st (x_goto 134)), (246, x_lda 247 0), (247, x_st (x_push 248 (.int (1)))), (248, x_pf 251 8 15 (.boolean)), (251, x_st (x_goto 134)), (254, x_st (x_goto 4)), (257, x_rv)]
set_option maxRecDepth 100000 in
set_option maxHeartbeats 4000000 in
theorem q_s100_3 (l : Launch) (s0 : State) : ∀ q ∈ q_k100_3, x_Sim (x_K s0) none l q_y100 q_c100 5 none q_w100 q.1 q.2 := by
  unfold q_k100_3
  refine List.forall_mem_cons.2 ⟨s_ifeq (off := 13) (by decide +kernel) (by decide), ?_⟩
  refine List.forall_mem_cons.2 ⟨s_aload_n (k := 0) (by decide +kernel) rfl, ?_⟩
  refine List.forall_mem_cons.2 ⟨s_getfield (C := q_n8) (T := q_T8) (N := 39) (idx := 42) (ref := "ProofDeskModel") (by decide +kernel) rfl q_in8 (by decide) (x_up mw_653) rfl, ?_⟩
  refine List.forall_mem_cons.2 ⟨s_iload (by decide +kernel), ?_⟩
  refine List.forall_mem_cons.2 ⟨s_iald (by decide +kernel) rfl, ?_⟩
  refine List.forall_mem_cons.2 ⟨s_goto (off := 12) (by decide +kernel) (by decide), ?_⟩
  refine List.forall_mem_cons.2 ⟨s_aload_n (k := 0) (by decide +kernel) rfl, ?_⟩
  refine List.forall_mem_cons.2 ⟨s_getfield (C := q_n8) (T := q_T8) (N := 39) (idx := 42) (ref := "ProofDeskModel") (by decide +kernel) rfl q_in8 (by decide) (x_up mw_653) rfl, ?_⟩
  refine List.forall_mem_cons.2 ⟨s_iload (by decide +kernel), ?_⟩
  refine List.forall_mem_cons.2 ⟨s_iald (by decide +kernel) rfl, ?_⟩
  refine List.forall_mem_cons.2 ⟨s_iconst (k := 1) (by decide +kernel) (by decide +kernel), ?_⟩
  refine List.forall_mem_cons.2 ⟨s_iadd (by decide +kernel), ?_⟩
  refine List.forall_mem_cons.2 ⟨s_iast (by decide +kernel) rfl, ?_⟩
  refine List.forall_mem_cons.2 ⟨s_goto (off := -94) (by decide +kernel) (by decide), ?_⟩
  refine List.forall_mem_cons.2 ⟨s_aload_n (k := 0) (by decide +kernel) rfl, ?_⟩
  refine List.forall_mem_cons.2 ⟨s_bipush (k := 41) (by decide +kernel) (by decide +kernel), ?_⟩
  refine List.forall_mem_cons.2 ⟨s_invokevirtual (idx := 119) (M := 96) (k := 1) (ci := 8) (C := q_n8) (T := q_T8) (N := 39) (ym := q_y96) (wm := q_w96) (by decide +kernel) rfl rfl rfl (x_gdV mw_687 mw_688 mw_689 mw_675 mw_686) rfl (by decide +kernel) (by decide), ?_⟩
  refine List.forall_mem_cons.2 ⟨s_ifeq (off := 9) (by decide +kernel) (by decide), ?_⟩
  refine List.forall_mem_cons.2 ⟨s_iinc (k := -1) (by decide +kernel) (by decide +kernel) (by decide), ?_⟩
  refine List.forall_mem_cons.2 ⟨s_goto (off := -109) (by decide +kernel) (by decide), ?_⟩
  refine List.forall_mem_cons.2 ⟨s_aload_n (k := 0) (by decide +kernel) rfl, ?_⟩
  refine List.forall_mem_cons.2 ⟨s_iconst (k := 1) (by decide +kernel) (by decide +kernel), ?_⟩
  refine List.forall_mem_cons.2 ⟨s_putfield (C := q_n8) (T := q_T8) (N := 39) (idx := 108) (ref := "ProofDeskModel") q_t8 (by decide +kernel) rfl q_in8 q_ty8 q_nm8 (by decide) (x_up mw_678) rfl rfl (by decide +kernel), ?_⟩
  refine List.forall_mem_cons.2 ⟨s_goto (off := -117) (by decide +kernel) (by decide), ?_⟩
  refine List.forall_mem_cons.2 ⟨s_goto (off := -250) (by decide +kernel) (by decide), ?_⟩
  refine List.forall_mem_cons.2 ⟨s_return (by decide +kernel) rfl, ?_⟩
  exact fun _ h => absurd h List.not_mem_nil
def q_k100 : List (Nat × xO) := q_k100_0 ++ q_k100_1 ++ q_k100_2 ++ q_k100_3
theorem q_s100 (l : Launch) (s0 : State) : ∀ q ∈ q_k100, x_Sim (x_K s0) none l q_y100 q_c100 5 none q_w100 q.1 q.2 := by
  intro q hq
  simp only [q_k100, List.mem_append] at hq
  rcases hq with ((h0 | h1) | h2) | h3
  · exact q_s100_0 l s0 q h0
  · exact q_s100_1 l s0 q h1
  · exact q_s100_2 l s0 q h2
  · exact q_s100_3 l s0 q h3
/-- ProofDeskModel.terms(I)I -/
def q_k101_0 : List (Nat × xO) := [(0, x_ldi 1 0), (1, x_st (x_push 3 (.int (99)))), (3, x_st (x_icge 10 6)), (6, x_st (x_push 7 (.int (0)))), (7, x_st (x_goto 26)), (10, x_ldi 11 0), (11, x_st (x_push 13 (.int (99)))), (13, x_st (x_icne 20 16)), (16, x_st (x_push 17 (.int (2)))), (17, x_st (x_goto 26)), (20, x_ldi 21 0), (21, x_st (x_push 23 (.int (100)))), (23, x_st (x_bin 24 (fun a b => a - b))), (24, x_st (x_push 25 (.int (4)))), (25, x_st (x_div 26 (fun a b => a - a / b * b))), (26, x_ri (.int))]
set_option maxRecDepth 100000 in
set_option maxHeartbeats 4000000 in
theorem q_s101_0 (l : Launch) (s0 : State) : ∀ q ∈ q_k101_0, x_Sim (x_K s0) none l q_y101 q_c101 1 (some .int) q_w101 q.1 q.2 := by
  unfold q_k101_0
  refine List.forall_mem_cons.2 ⟨s_iload_n (k := 0) (by decide +kernel) rfl, ?_⟩
  refine List.forall_mem_cons.2 ⟨s_bipush (k := 99) (by decide +kernel) (by decide +kernel), ?_⟩
  refine List.forall_mem_cons.2 ⟨s_icmp_ge (off := 7) (by decide +kernel) (by decide), ?_⟩
  refine List.forall_mem_cons.2 ⟨s_iconst (k := 0) (by decide +kernel) (by decide +kernel), ?_⟩
  refine List.forall_mem_cons.2 ⟨s_goto (off := 19) (by decide +kernel) (by decide), ?_⟩
  refine List.forall_mem_cons.2 ⟨s_iload_n (k := 0) (by decide +kernel) rfl, ?_⟩
  refine List.forall_mem_cons.2 ⟨s_bipush (k := 99) (by decide +kernel) (by decide +kernel), ?_⟩
  refine List.forall_mem_cons.2 ⟨s_icmp_ne (off := 7) (by decide +kernel) (by decide), ?_⟩
  refine List.forall_mem_cons.2 ⟨s_iconst (k := 2) (by decide +kernel) (by decide +kernel), ?_⟩
  refine List.forall_mem_cons.2 ⟨s_goto (off := 9) (by decide +kernel) (by decide), ?_⟩
  refine List.forall_mem_cons.2 ⟨s_iload_n (k := 0) (by decide +kernel) rfl, ?_⟩
  refine List.forall_mem_cons.2 ⟨s_bipush (k := 100) (by decide +kernel) (by decide +kernel), ?_⟩
  refine List.forall_mem_cons.2 ⟨s_isub (by decide +kernel), ?_⟩
  refine List.forall_mem_cons.2 ⟨s_iconst (k := 4) (by decide +kernel) (by decide +kernel), ?_⟩
  refine List.forall_mem_cons.2 ⟨s_irem (by decide +kernel), ?_⟩
  refine List.forall_mem_cons.2 ⟨s_ireturn (ty := .int) (by decide +kernel) rfl, ?_⟩
  exact fun _ h => absurd h List.not_mem_nil
def q_k101 : List (Nat × xO) := q_k101_0
theorem q_s101 (l : Launch) (s0 : State) : ∀ q ∈ q_k101, x_Sim (x_K s0) none l q_y101 q_c101 1 (some .int) q_w101 q.1 q.2 := q_s101_0 l s0
/-- ProofDeskModel.note(IIZ)V -/
def q_k102_0 : List (Nat × xO) := [(0, x_ldi 1 1), (1, x_sti 3 4), (3, x_ldi 5 4), (5, x_ldi 6 2), (6, x_st (x_icge 69 9)), (9, x_lda 10 0), (10, x_gf 13 8 17), (13, x_ldi 15 4), (15, x_ald 16 0), (16, x_st (x_push 18 (.int (100)))), (18, x_st (x_iclt 63 21)), (21, x_lda 22 0), (22, x_lda 23 0), (23, x_gf 26 8 17), (26, x_ldi 28 4), (28, x_ald 29 0), (29, x_st (x_push 31 (.int (100)))), (31, x_st (x_bin 32 (fun a b => a - b))), (32, x_st (x_push 33 (.int (4)))), (33, x_st (x_div 34 (fun a b => a / b))), (34, x_lda 35 0), (35, x_gf 38 8 17), (38, x_ldi 40 4), (40, x_ald 41 0), (41, x_cl_ 44 101 1), (44, x_ldi 46 4), (46, x_ldi 47 1), (47, x_st (x_icne 58 50)), (50, x_ldi 51 3), (51, x_st (x_ifeq 58 54)), (54, x_st (x_push 55 (.int (5)))), (55, x_st (x_goto 59)), (58, x_st (x_push 59 (.int (1)))), (59, x_st (x_bin 60 (fun a b => a + b))), (60, x_cv 63 99 3 8), (63, x_iinc 66 4 (1)), (66, x_st (x_goto 3)), (69, x_rv)]
set_option maxRecDepth 100000 in
set_option maxHeartbeats 4000000 in
theorem q_s102_0 (l : Launch) (s0 : State) : ∀ q ∈ q_k102_0, x_Sim (x_K s0) none l q_y102 q_c102 5 none q_w102 q.1 q.2 := by
  unfold q_k102_0
  refine List.forall_mem_cons.2 ⟨s_iload_n (k := 1) (by decide +kernel) rfl, ?_⟩
  refine List.forall_mem_cons.2 ⟨s_istore (by decide +kernel) (by decide), ?_⟩
  refine List.forall_mem_cons.2 ⟨s_iload (by decide +kernel), ?_⟩
  refine List.forall_mem_cons.2 ⟨s_iload_n (k := 2) (by decide +kernel) rfl, ?_⟩
  refine List.forall_mem_cons.2 ⟨s_icmp_ge (off := 63) (by decide +kernel) (by decide), ?_⟩
  refine List.forall_mem_cons.2 ⟨s_aload_n (k := 0) (by decide +kernel) rfl, ?_⟩
  refine List.forall_mem_cons.2 ⟨s_getfield (C := q_n8) (T := q_T8) (N := 39) (idx := 42) (ref := "ProofDeskModel") (by decide +kernel) rfl q_in8 (by decide) (x_up mw_653) rfl, ?_⟩
  refine List.forall_mem_cons.2 ⟨s_iload (by decide +kernel), ?_⟩
  refine List.forall_mem_cons.2 ⟨s_iald (by decide +kernel) rfl, ?_⟩
  refine List.forall_mem_cons.2 ⟨s_bipush (k := 100) (by decide +kernel) (by decide +kernel), ?_⟩
  refine List.forall_mem_cons.2 ⟨s_icmp_lt (off := 45) (by decide +kernel) (by decide), ?_⟩
  refine List.forall_mem_cons.2 ⟨s_aload_n (k := 0) (by decide +kernel) rfl, ?_⟩
  refine List.forall_mem_cons.2 ⟨s_aload_n (k := 0) (by decide +kernel) rfl, ?_⟩
  refine List.forall_mem_cons.2 ⟨s_getfield (C := q_n8) (T := q_T8) (N := 39) (idx := 42) (ref := "ProofDeskModel") (by decide +kernel) rfl q_in8 (by decide) (x_up mw_653) rfl, ?_⟩
  refine List.forall_mem_cons.2 ⟨s_iload (by decide +kernel), ?_⟩
  refine List.forall_mem_cons.2 ⟨s_iald (by decide +kernel) rfl, ?_⟩
  refine List.forall_mem_cons.2 ⟨s_bipush (k := 100) (by decide +kernel) (by decide +kernel), ?_⟩
  refine List.forall_mem_cons.2 ⟨s_isub (by decide +kernel), ?_⟩
  refine List.forall_mem_cons.2 ⟨s_iconst (k := 4) (by decide +kernel) (by decide +kernel), ?_⟩
  refine List.forall_mem_cons.2 ⟨s_idiv (by decide +kernel), ?_⟩
  refine List.forall_mem_cons.2 ⟨s_aload_n (k := 0) (by decide +kernel) rfl, ?_⟩
  refine List.forall_mem_cons.2 ⟨s_getfield (C := q_n8) (T := q_T8) (N := 39) (idx := 42) (ref := "ProofDeskModel") (by decide +kernel) rfl q_in8 (by decide) (x_up mw_653) rfl, ?_⟩
  refine List.forall_mem_cons.2 ⟨s_iload (by decide +kernel), ?_⟩
  refine List.forall_mem_cons.2 ⟨s_iald (by decide +kernel) rfl, ?_⟩
  refine List.forall_mem_cons.2 ⟨s_invokestatic (idx := 122) (M := 101) (ym := q_y101) (wm := q_w101) (by decide +kernel) rfl rfl (x_gdS mw_691 mw_692 mw_675 mw_690) rfl (by decide +kernel) (by decide), ?_⟩
  refine List.forall_mem_cons.2 ⟨s_iload (by decide +kernel), ?_⟩
  refine List.forall_mem_cons.2 ⟨s_iload_n (k := 1) (by decide +kernel) rfl, ?_⟩
  refine List.forall_mem_cons.2 ⟨s_icmp_ne (off := 11) (by decide +kernel) (by decide), ?_⟩
  refine List.forall_mem_cons.2 ⟨s_iload_n (k := 3) (by decide +kernel) rfl, ?_⟩
  refine List.forall_mem_cons.2 ⟨s_ifeq (off := 7) (by decide +kernel) (by decide), ?_⟩
  refine List.forall_mem_cons.2 ⟨s_iconst (k := 5) (by decide +kernel) (by decide +kernel), ?_⟩
  refine List.forall_mem_cons.2 ⟨s_goto (off := 4) (by decide +kernel) (by decide), ?_⟩
  refine List.forall_mem_cons.2 ⟨s_iconst (k := 1) (by decide +kernel) (by decide +kernel), ?_⟩
  refine List.forall_mem_cons.2 ⟨s_iadd (by decide +kernel), ?_⟩
  refine List.forall_mem_cons.2 ⟨s_invokevirtual (idx := 126) (M := 99) (k := 2) (ci := 8) (C := q_n8) (T := q_T8) (N := 39) (ym := q_y99) (wm := q_w99) (by decide +kernel) rfl rfl rfl (x_gdV mw_694 mw_695 mw_696 mw_675 mw_693) rfl (by decide +kernel) (by decide), ?_⟩
  refine List.forall_mem_cons.2 ⟨s_iinc (k := 1) (by decide +kernel) (by decide +kernel) (by decide), ?_⟩
  refine List.forall_mem_cons.2 ⟨s_goto (off := -63) (by decide +kernel) (by decide), ?_⟩
  refine List.forall_mem_cons.2 ⟨s_return (by decide +kernel) rfl, ?_⟩
  exact fun _ h => absurd h List.not_mem_nil
def q_k102 : List (Nat × xO) := q_k102_0
theorem q_s102 (l : Launch) (s0 : State) : ∀ q ∈ q_k102, x_Sim (x_K s0) none l q_y102 q_c102 5 none q_w102 q.1 q.2 := q_s102_0 l s0
/-- ProofDeskModel.literal()V -/
def q_k103_0 : List (Nat × xO) := [(0, x_lda 1 0), (1, x_gf 4 8 18), (4, x_lda 5 0), (5, x_gf 8 8 22), (8, x_lda 9 0), (9, x_gf 12 8 21), (12, x_ast 13 0 (fun x => x)), (13, x_lda 14 0), (14, x_gf 17 8 20), (17, x_lda 18 0), (18, x_gf 21 8 22), (21, x_lda 22 0), (22, x_st (x_push 24 (.int (126)))), (24, x_cv 27 96 2 8), (27, x_ast 28 1 (fun x => vp_nar .boolean x)), (28, x_lda 29 0), (29, x_gf 32 8 21), (32, x_sti 33 1), (33, x_lda 34 0), (34, x_cv 37 95 1 8), (37, x_st (x_push 39 (.int (65)))), (39, x_st (x_iclt 55 42)), (42, x_lda 43 0), (43, x_cv 46 95 1 8), (46, x_st (x_push 48 (.int (90)))), (48, x_st (x_icgt 55 51)), (51, x_st (x_push 52 (.int (1)))), (52, x_st (x_goto 56)), (55, x_st (x_push 56 (.int (0)))), (56, x_sti 57 2), (57, x_lda 58 0), (58, x_cv 61 100 1 8), (61, x_lda 62 0), (62, x_gf 65 8 15), (65, x_st (x_ifne 144 68)), (68, x_lda 69 0), (69, x_st (x_push 71 (.int (61)))), (71, x_cv 74 96 2 8), (74, x_st (x_ifeq 144 77)), (77, x_lda 78 0)]
set_option maxRecDepth 100000 in
set_option maxHeartbeats 4000000 in
theorem q_s103_0 (l : Launch) (s0 : State) : ∀ q ∈ q_k103_0, x_Sim (x_K s0) none l q_y103 q_c103 4 none q_w103 q.1 q.2 := by
  unfold q_k103_0
  refine List.forall_mem_cons.2 ⟨s_aload_n (k := 0) (by decide +kernel) rfl, ?_⟩
  refine List.forall_mem_cons.2 ⟨s_getfield (C := q_n8) (T := q_T8) (N := 39) (idx := 45) (ref := "ProofDeskModel") (by decide +kernel) rfl q_in8 (by decide) (x_up mw_654) rfl, ?_⟩
  refine List.forall_mem_cons.2 ⟨s_aload_n (k := 0) (by decide +kernel) rfl, ?_⟩
  refine List.forall_mem_cons.2 ⟨s_getfield (C := q_n8) (T := q_T8) (N := 39) (idx := 130) (ref := "ProofDeskModel") (by decide +kernel) rfl q_in8 (by decide) (x_up mw_697) rfl, ?_⟩
  refine List.forall_mem_cons.2 ⟨s_aload_n (k := 0) (by decide +kernel) rfl, ?_⟩
  refine List.forall_mem_cons.2 ⟨s_getfield (C := q_n8) (T := q_T8) (N := 39) (idx := 101) (ref := "ProofDeskModel") (by decide +kernel) rfl q_in8 (by decide) (x_up mw_676) rfl, ?_⟩
  refine List.forall_mem_cons.2 ⟨s_iast (by decide +kernel) rfl, ?_⟩
  refine List.forall_mem_cons.2 ⟨s_aload_n (k := 0) (by decide +kernel) rfl, ?_⟩
  refine List.forall_mem_cons.2 ⟨s_getfield (C := q_n8) (T := q_T8) (N := 39) (idx := 51) (ref := "ProofDeskModel") (by decide +kernel) rfl q_in8 (by decide) (x_up mw_656) rfl, ?_⟩
  refine List.forall_mem_cons.2 ⟨s_aload_n (k := 0) (by decide +kernel) rfl, ?_⟩
  refine List.forall_mem_cons.2 ⟨s_getfield (C := q_n8) (T := q_T8) (N := 39) (idx := 130) (ref := "ProofDeskModel") (by decide +kernel) rfl q_in8 (by decide) (x_up mw_697) rfl, ?_⟩
  refine List.forall_mem_cons.2 ⟨s_aload_n (k := 0) (by decide +kernel) rfl, ?_⟩
  refine List.forall_mem_cons.2 ⟨s_bipush (k := 126) (by decide +kernel) (by decide +kernel), ?_⟩
  refine List.forall_mem_cons.2 ⟨s_invokevirtual (idx := 119) (M := 96) (k := 1) (ci := 8) (C := q_n8) (T := q_T8) (N := 39) (ym := q_y96) (wm := q_w96) (by decide +kernel) rfl rfl rfl (x_gdV mw_687 mw_688 mw_689 mw_675 mw_686) rfl (by decide +kernel) (by decide), ?_⟩
  refine List.forall_mem_cons.2 ⟨s_zast (by decide +kernel) rfl, ?_⟩
  refine List.forall_mem_cons.2 ⟨s_aload_n (k := 0) (by decide +kernel) rfl, ?_⟩
  refine List.forall_mem_cons.2 ⟨s_getfield (C := q_n8) (T := q_T8) (N := 39) (idx := 101) (ref := "ProofDeskModel") (by decide +kernel) rfl q_in8 (by decide) (x_up mw_676) rfl, ?_⟩
  refine List.forall_mem_cons.2 ⟨s_istore_n (k := 1) (by decide +kernel) rfl (by decide), ?_⟩
  refine List.forall_mem_cons.2 ⟨s_aload_n (k := 0) (by decide +kernel) rfl, ?_⟩
  refine List.forall_mem_cons.2 ⟨s_invokevirtual (idx := 97) (M := 95) (k := 0) (ci := 8) (C := q_n8) (T := q_T8) (N := 39) (ym := q_y95) (wm := q_w95) (by decide +kernel) rfl rfl rfl (x_gdV mw_672 mw_673 mw_674 mw_675 mw_671) rfl (by decide +kernel) (by decide), ?_⟩
  refine List.forall_mem_cons.2 ⟨s_bipush (k := 65) (by decide +kernel) (by decide +kernel), ?_⟩
  refine List.forall_mem_cons.2 ⟨s_icmp_lt (off := 16) (by decide +kernel) (by decide), ?_⟩
  refine List.forall_mem_cons.2 ⟨s_aload_n (k := 0) (by decide +kernel) rfl, ?_⟩
  refine List.forall_mem_cons.2 ⟨s_invokevirtual (idx := 97) (M := 95) (k := 0) (ci := 8) (C := q_n8) (T := q_T8) (N := 39) (ym := q_y95) (wm := q_w95) (by decide +kernel) rfl rfl rfl (x_gdV mw_672 mw_673 mw_674 mw_675 mw_671) rfl (by decide +kernel) (by decide), ?_⟩
  refine List.forall_mem_cons.2 ⟨s_bipush (k := 90) (by decide +kernel) (by decide +kernel), ?_⟩
  refine List.forall_mem_cons.2 ⟨s_icmp_gt (off := 7) (by decide +kernel) (by decide), ?_⟩
  refine List.forall_mem_cons.2 ⟨s_iconst (k := 1) (by decide +kernel) (by decide +kernel), ?_⟩
  refine List.forall_mem_cons.2 ⟨s_goto (off := 4) (by decide +kernel) (by decide), ?_⟩
  refine List.forall_mem_cons.2 ⟨s_iconst (k := 0) (by decide +kernel) (by decide +kernel), ?_⟩
  refine List.forall_mem_cons.2 ⟨s_istore_n (k := 2) (by decide +kernel) rfl (by decide), ?_⟩
  refine List.forall_mem_cons.2 ⟨s_aload_n (k := 0) (by decide +kernel) rfl, ?_⟩
  refine List.forall_mem_cons.2 ⟨s_invokevirtual (idx := 133) (M := 100) (k := 0) (ci := 8) (C := q_n8) (T := q_T8) (N := 39) (ym := q_y100) (wm := q_w100) (by decide +kernel) rfl rfl rfl (x_gdV mw_699 mw_700 mw_701 mw_675 mw_698) rfl (by decide +kernel) (by decide), ?_⟩
  refine List.forall_mem_cons.2 ⟨s_aload_n (k := 0) (by decide +kernel) rfl, ?_⟩
  refine List.forall_mem_cons.2 ⟨s_getfield (C := q_n8) (T := q_T8) (N := 39) (idx := 108) (ref := "ProofDeskModel") (by decide +kernel) rfl q_in8 (by decide) (x_up mw_678) rfl, ?_⟩
  refine List.forall_mem_cons.2 ⟨s_ifne (off := 79) (by decide +kernel) (by decide), ?_⟩
  refine List.forall_mem_cons.2 ⟨s_aload_n (k := 0) (by decide +kernel) rfl, ?_⟩
  refine List.forall_mem_cons.2 ⟨s_bipush (k := 61) (by decide +kernel) (by decide +kernel), ?_⟩
  refine List.forall_mem_cons.2 ⟨s_invokevirtual (idx := 119) (M := 96) (k := 1) (ci := 8) (C := q_n8) (T := q_T8) (N := 39) (ym := q_y96) (wm := q_w96) (by decide +kernel) rfl rfl rfl (x_gdV mw_687 mw_688 mw_689 mw_675 mw_686) rfl (by decide +kernel) (by decide), ?_⟩
  refine List.forall_mem_cons.2 ⟨s_ifeq (off := 70) (by decide +kernel) (by decide), ?_⟩
  refine List.forall_mem_cons.2 ⟨s_aload_n (k := 0) (by decide +kernel) rfl, ?_⟩
  exact fun _ h => absurd h List.not_mem_nil
def q_k103_1 : List (Nat × xO) := [(78, x_gf 81 8 21), (81, x_sti 82 3), (82, x_ldi 83 3), (83, x_ldi 84 1), (84, x_st (x_icle 107 87)), (87, x_lda 88 0), (88, x_gf 91 8 17), (91, x_ldi 92 3), (92, x_lda 93 0), (93, x_gf 96 8 17), (96, x_ldi 97 3), (97, x_st (x_push 98 (.int (1)))), (98, x_st (x_bin 99 (fun a b => a - b))), (99, x_ald 100 0), (100, x_ast 101 0 (fun x => x)), (101, x_iinc 104 3 (-1)), (104, x_st (x_goto 82)), (107, x_lda 108 0), (108, x_gf 111 8 17), (111, x_ldi 112 1), (112, x_st (x_push 114 (.int (99)))), (114, x_ast 115 0 (fun x => x)), (115, x_lda 116 0), (116, x_st (x_dup 117)), (117, x_gf 120 8 21), (120, x_st (x_push 121 (.int (1)))), (121, x_st (x_bin 122 (fun a b => a + b))), (122, x_pf 125 8 21 (.int)), (125, x_lda 126 0), (126, x_cv 129 100 1 8), (129, x_lda 130 0), (130, x_ldi 131 1), (131, x_st (x_push 132 (.int (1)))), (132, x_st (x_bin 133 (fun a b => a + b))), (133, x_lda 134 0), (134, x_gf 137 8 21), (137, x_st (x_push 138 (.int (0)))), (138, x_cv 141 102 4 8), (141, x_st (x_goto 174)), (144, x_lda 145 0)]
set_option maxRecDepth 100000 in
set_option maxHeartbeats 4000000 in
theorem q_s103_1 (l : Launch) (s0 : State) : ∀ q ∈ q_k103_1, x_Sim (x_K s0) none l q_y103 q_c103 4 none q_w103 q.1 q.2 := by
  unfold q_k103_1
  refine List.forall_mem_cons.2 ⟨s_getfield (C := q_n8) (T := q_T8) (N := 39) (idx := 101) (ref := "ProofDeskModel") (by decide +kernel) rfl q_in8 (by decide) (x_up mw_676) rfl, ?_⟩
  refine List.forall_mem_cons.2 ⟨s_istore_n (k := 3) (by decide +kernel) rfl (by decide), ?_⟩
  refine List.forall_mem_cons.2 ⟨s_iload_n (k := 3) (by decide +kernel) rfl, ?_⟩
  refine List.forall_mem_cons.2 ⟨s_iload_n (k := 1) (by decide +kernel) rfl, ?_⟩
  refine List.forall_mem_cons.2 ⟨s_icmp_le (off := 23) (by decide +kernel) (by decide), ?_⟩
  refine List.forall_mem_cons.2 ⟨s_aload_n (k := 0) (by decide +kernel) rfl, ?_⟩
  refine List.forall_mem_cons.2 ⟨s_getfield (C := q_n8) (T := q_T8) (N := 39) (idx := 42) (ref := "ProofDeskModel") (by decide +kernel) rfl q_in8 (by decide) (x_up mw_653) rfl, ?_⟩
  refine List.forall_mem_cons.2 ⟨s_iload_n (k := 3) (by decide +kernel) rfl, ?_⟩
  refine List.forall_mem_cons.2 ⟨s_aload_n (k := 0) (by decide +kernel) rfl, ?_⟩
  refine List.forall_mem_cons.2 ⟨s_getfield (C := q_n8) (T := q_T8) (N := 39) (idx := 42) (ref := "ProofDeskModel") (by decide +kernel) rfl q_in8 (by decide) (x_up mw_653) rfl, ?_⟩
  refine List.forall_mem_cons.2 ⟨s_iload_n (k := 3) (by decide +kernel) rfl, ?_⟩
  refine List.forall_mem_cons.2 ⟨s_iconst (k := 1) (by decide +kernel) (by decide +kernel), ?_⟩
  refine List.forall_mem_cons.2 ⟨s_isub (by decide +kernel), ?_⟩
  refine List.forall_mem_cons.2 ⟨s_iald (by decide +kernel) rfl, ?_⟩
  refine List.forall_mem_cons.2 ⟨s_iast (by decide +kernel) rfl, ?_⟩
  refine List.forall_mem_cons.2 ⟨s_iinc (k := -1) (by decide +kernel) (by decide +kernel) (by decide), ?_⟩
  refine List.forall_mem_cons.2 ⟨s_goto (off := -22) (by decide +kernel) (by decide), ?_⟩
  refine List.forall_mem_cons.2 ⟨s_aload_n (k := 0) (by decide +kernel) rfl, ?_⟩
  refine List.forall_mem_cons.2 ⟨s_getfield (C := q_n8) (T := q_T8) (N := 39) (idx := 42) (ref := "ProofDeskModel") (by decide +kernel) rfl q_in8 (by decide) (x_up mw_653) rfl, ?_⟩
  refine List.forall_mem_cons.2 ⟨s_iload_n (k := 1) (by decide +kernel) rfl, ?_⟩
  refine List.forall_mem_cons.2 ⟨s_bipush (k := 99) (by decide +kernel) (by decide +kernel), ?_⟩
  refine List.forall_mem_cons.2 ⟨s_iast (by decide +kernel) rfl, ?_⟩
  refine List.forall_mem_cons.2 ⟨s_aload_n (k := 0) (by decide +kernel) rfl, ?_⟩
  refine List.forall_mem_cons.2 ⟨s_dup (by decide +kernel), ?_⟩
  refine List.forall_mem_cons.2 ⟨s_getfield (C := q_n8) (T := q_T8) (N := 39) (idx := 101) (ref := "ProofDeskModel") (by decide +kernel) rfl q_in8 (by decide) (x_up mw_676) rfl, ?_⟩
  refine List.forall_mem_cons.2 ⟨s_iconst (k := 1) (by decide +kernel) (by decide +kernel), ?_⟩
  refine List.forall_mem_cons.2 ⟨s_iadd (by decide +kernel), ?_⟩
  refine List.forall_mem_cons.2 ⟨s_putfield (C := q_n8) (T := q_T8) (N := 39) (idx := 101) (ref := "ProofDeskModel") q_t8 (by decide +kernel) rfl q_in8 q_ty8 q_nm8 (by decide) (x_up mw_676) rfl rfl (by decide +kernel), ?_⟩
  refine List.forall_mem_cons.2 ⟨s_aload_n (k := 0) (by decide +kernel) rfl, ?_⟩
  refine List.forall_mem_cons.2 ⟨s_invokevirtual (idx := 133) (M := 100) (k := 0) (ci := 8) (C := q_n8) (T := q_T8) (N := 39) (ym := q_y100) (wm := q_w100) (by decide +kernel) rfl rfl rfl (x_gdV mw_699 mw_700 mw_701 mw_675 mw_698) rfl (by decide +kernel) (by decide), ?_⟩
  refine List.forall_mem_cons.2 ⟨s_aload_n (k := 0) (by decide +kernel) rfl, ?_⟩
  refine List.forall_mem_cons.2 ⟨s_iload_n (k := 1) (by decide +kernel) rfl, ?_⟩
  refine List.forall_mem_cons.2 ⟨s_iconst (k := 1) (by decide +kernel) (by decide +kernel), ?_⟩
  refine List.forall_mem_cons.2 ⟨s_iadd (by decide +kernel), ?_⟩
  refine List.forall_mem_cons.2 ⟨s_aload_n (k := 0) (by decide +kernel) rfl, ?_⟩
  refine List.forall_mem_cons.2 ⟨s_getfield (C := q_n8) (T := q_T8) (N := 39) (idx := 101) (ref := "ProofDeskModel") (by decide +kernel) rfl q_in8 (by decide) (x_up mw_676) rfl, ?_⟩
  refine List.forall_mem_cons.2 ⟨s_iconst (k := 0) (by decide +kernel) (by decide +kernel), ?_⟩
  refine List.forall_mem_cons.2 ⟨s_invokevirtual (idx := 136) (M := 102) (k := 3) (ci := 8) (C := q_n8) (T := q_T8) (N := 39) (ym := q_y102) (wm := q_w102) (by decide +kernel) rfl rfl rfl (x_gdV mw_703 mw_704 mw_705 mw_675 mw_702) rfl (by decide +kernel) (by decide), ?_⟩
  refine List.forall_mem_cons.2 ⟨s_goto (off := 33) (by decide +kernel) (by decide), ?_⟩
  refine List.forall_mem_cons.2 ⟨s_aload_n (k := 0) (by decide +kernel) rfl, ?_⟩
  exact fun _ h => absurd h List.not_mem_nil
def q_k103_2 : List (Nat × xO) := [(145, x_lda 146 0), (146, x_gf 149 8 15), (149, x_st (x_ifne 156 152)), (152, x_ldi 153 2), (153, x_st (x_ifeq 160 156)), (156, x_st (x_push 157 (.int (1)))), (157, x_st (x_goto 161)), (160, x_st (x_push 161 (.int (0)))), (161, x_pf 164 8 15 (.boolean)), (164, x_lda 165 0), (165, x_ldi 166 1), (166, x_lda 167 0), (167, x_gf 170 8 21), (170, x_st (x_push 171 (.int (1)))), (171, x_cv 174 102 4 8), (174, x_lda 175 0), (175, x_st (x_dup 176)), (176, x_gf 179 8 22), (179, x_st (x_push 180 (.int (1)))), (180, x_st (x_bin 181 (fun a b => a + b))), (181, x_pf 184 8 22 (.int)), (184, x_lda 185 0), (185, x_gf 188 8 18), (188, x_lda 189 0), (189, x_gf 192 8 22), (192, x_lda 193 0), (193, x_gf 196 8 21), (196, x_ast 197 0 (fun x => x)), (197, x_lda 198 0), (198, x_lda 199 0), (199, x_gf 202 8 22), (202, x_st (x_push 203 (.int (1)))), (203, x_st (x_bin 204 (fun a b => a - b))), (204, x_cv 207 104 2 8), (207, x_st (x_ifeq 233 210)), (210, x_lda 211 0), (211, x_st (x_dup 212)), (212, x_gf 215 8 22), (215, x_st (x_push 216 (.int (1)))), (216, x_st (x_bin 217 (fun a b => a - b)))]
set_option maxRecDepth 100000 in
set_option maxHeartbeats 4000000 in
theorem q_s103_2 (l : Launch) (s0 : State) : ∀ q ∈ q_k103_2, x_Sim (x_K s0) none l q_y103 q_c103 4 none q_w103 q.1 q.2 := by
  unfold q_k103_2
  refine List.forall_mem_cons.2 ⟨s_aload_n (k := 0) (by decide +kernel) rfl, ?_⟩
  refine List.forall_mem_cons.2 ⟨s_getfield (C := q_n8) (T := q_T8) (N := 39) (idx := 108) (ref := "ProofDeskModel") (by decide +kernel) rfl q_in8 (by decide) (x_up mw_678) rfl, ?_⟩
  refine List.forall_mem_cons.2 ⟨s_ifne (off := 7) (by decide +kernel) (by decide), ?_⟩
  refine List.forall_mem_cons.2 ⟨s_iload_n (k := 2) (by decide +kernel) rfl, ?_⟩
  refine List.forall_mem_cons.2 ⟨s_ifeq (off := 7) (by decide +kernel) (by decide), ?_⟩
  refine List.forall_mem_cons.2 ⟨s_iconst (k := 1) (by decide +kernel) (by decide +kernel), ?_⟩
  refine List.forall_mem_cons.2 ⟨s_goto (off := 4) (by decide +kernel) (by decide), ?_⟩
  refine List.forall_mem_cons.2 ⟨s_iconst (k := 0) (by decide +kernel) (by decide +kernel), ?_⟩
  refine List.forall_mem_cons.2 ⟨s_putfield (C := q_n8) (T := q_T8) (N := 39) (idx := 108) (ref := "ProofDeskModel") q_t8 (by decide +kernel) rfl q_in8 q_ty8 q_nm8 (by decide) (x_up mw_678) rfl rfl (by decide +kernel), ?_⟩
  refine List.forall_mem_cons.2 ⟨s_aload_n (k := 0) (by decide +kernel) rfl, ?_⟩
  refine List.forall_mem_cons.2 ⟨s_iload_n (k := 1) (by decide +kernel) rfl, ?_⟩
  refine List.forall_mem_cons.2 ⟨s_aload_n (k := 0) (by decide +kernel) rfl, ?_⟩
  refine List.forall_mem_cons.2 ⟨s_getfield (C := q_n8) (T := q_T8) (N := 39) (idx := 101) (ref := "ProofDeskModel") (by decide +kernel) rfl q_in8 (by decide) (x_up mw_676) rfl, ?_⟩
  refine List.forall_mem_cons.2 ⟨s_iconst (k := 1) (by decide +kernel) (by decide +kernel), ?_⟩
  refine List.forall_mem_cons.2 ⟨s_invokevirtual (idx := 136) (M := 102) (k := 3) (ci := 8) (C := q_n8) (T := q_T8) (N := 39) (ym := q_y102) (wm := q_w102) (by decide +kernel) rfl rfl rfl (x_gdV mw_703 mw_704 mw_705 mw_675 mw_702) rfl (by decide +kernel) (by decide), ?_⟩
  refine List.forall_mem_cons.2 ⟨s_aload_n (k := 0) (by decide +kernel) rfl, ?_⟩
  refine List.forall_mem_cons.2 ⟨s_dup (by decide +kernel), ?_⟩
  refine List.forall_mem_cons.2 ⟨s_getfield (C := q_n8) (T := q_T8) (N := 39) (idx := 130) (ref := "ProofDeskModel") (by decide +kernel) rfl q_in8 (by decide) (x_up mw_697) rfl, ?_⟩
  refine List.forall_mem_cons.2 ⟨s_iconst (k := 1) (by decide +kernel) (by decide +kernel), ?_⟩
  refine List.forall_mem_cons.2 ⟨s_iadd (by decide +kernel), ?_⟩
  refine List.forall_mem_cons.2 ⟨s_putfield (C := q_n8) (T := q_T8) (N := 39) (idx := 130) (ref := "ProofDeskModel") q_t8 (by decide +kernel) rfl q_in8 q_ty8 q_nm8 (by decide) (x_up mw_697) rfl rfl (by decide +kernel), ?_⟩
  refine List.forall_mem_cons.2 ⟨s_aload_n (k := 0) (by decide +kernel) rfl, ?_⟩
  refine List.forall_mem_cons.2 ⟨s_getfield (C := q_n8) (T := q_T8) (N := 39) (idx := 45) (ref := "ProofDeskModel") (by decide +kernel) rfl q_in8 (by decide) (x_up mw_654) rfl, ?_⟩
  refine List.forall_mem_cons.2 ⟨s_aload_n (k := 0) (by decide +kernel) rfl, ?_⟩
  refine List.forall_mem_cons.2 ⟨s_getfield (C := q_n8) (T := q_T8) (N := 39) (idx := 130) (ref := "ProofDeskModel") (by decide +kernel) rfl q_in8 (by decide) (x_up mw_697) rfl, ?_⟩
  refine List.forall_mem_cons.2 ⟨s_aload_n (k := 0) (by decide +kernel) rfl, ?_⟩
  refine List.forall_mem_cons.2 ⟨s_getfield (C := q_n8) (T := q_T8) (N := 39) (idx := 101) (ref := "ProofDeskModel") (by decide +kernel) rfl q_in8 (by decide) (x_up mw_676) rfl, ?_⟩
  refine List.forall_mem_cons.2 ⟨s_iast (by decide +kernel) rfl, ?_⟩
  refine List.forall_mem_cons.2 ⟨s_aload_n (k := 0) (by decide +kernel) rfl, ?_⟩
  refine List.forall_mem_cons.2 ⟨s_aload_n (k := 0) (by decide +kernel) rfl, ?_⟩
  refine List.forall_mem_cons.2 ⟨s_getfield (C := q_n8) (T := q_T8) (N := 39) (idx := 130) (ref := "ProofDeskModel") (by decide +kernel) rfl q_in8 (by decide) (x_up mw_697) rfl, ?_⟩
  refine List.forall_mem_cons.2 ⟨s_iconst (k := 1) (by decide +kernel) (by decide +kernel), ?_⟩
  refine List.forall_mem_cons.2 ⟨s_isub (by decide +kernel), ?_⟩
  refine List.forall_mem_cons.2 ⟨s_invokevirtual (idx := 140) (M := 104) (k := 1) (ci := 8) (C := q_n8) (T := q_T8) (N := 39) (ym := q_y104) (wm := q_w104) (by decide +kernel) rfl rfl rfl (x_gdV mw_707 mw_708 mw_709 mw_675 mw_706) rfl (by decide +kernel) (by decide), ?_⟩
  refine List.forall_mem_cons.2 ⟨s_ifeq (off := 26) (by decide +kernel) (by decide), ?_⟩
  refine List.forall_mem_cons.2 ⟨s_aload_n (k := 0) (by decide +kernel) rfl, ?_⟩
  refine List.forall_mem_cons.2 ⟨s_dup (by decide +kernel), ?_⟩
  refine List.forall_mem_cons.2 ⟨s_getfield (C := q_n8) (T := q_T8) (N := 39) (idx := 130) (ref := "ProofDeskModel") (by decide +kernel) rfl q_in8 (by decide) (x_up mw_697) rfl, ?_⟩
  refine List.forall_mem_cons.2 ⟨s_iconst (k := 1) (by decide +kernel) (by decide +kernel), ?_⟩
  refine List.forall_mem_cons.2 ⟨s_isub (by decide +kernel), ?_⟩
  exact fun _ h => absurd h List.not_mem_nil
def q_k103_3 : List (Nat × xO) := [(217, x_pf 220 8 22 (.int)), (220, x_lda 221 0), (221, x_lda 222 0), (222, x_gf 225 8 18), (225, x_lda 226 0), (226, x_gf 229 8 22), (229, x_ald 230 0), (230, x_pf 233 8 21 (.int)), (233, x_rv)]
set_option maxRecDepth 100000 in
set_option maxHeartbeats 4000000 in
theorem q_s103_3 (l : Launch) (s0 : State) : ∀ q ∈ q_k103_3, x_Sim (x_K s0) none l q_y103 q_c103 4 none q_w103 q.1 q.2 := by
  unfold q_k103_3
  refine List.forall_mem_cons.2 ⟨s_putfield (C := q_n8) (T := q_T8) (N := 39) (idx := 130) (ref := "ProofDeskModel") q_t8 (by decide +kernel) rfl q_in8 q_ty8 q_nm8 (by decide) (x_up mw_697) rfl rfl (by decide +kernel), ?_⟩
  refine List.forall_mem_cons.2 ⟨s_aload_n (k := 0) (by decide +kernel) rfl, ?_⟩
  refine List.forall_mem_cons.2 ⟨s_aload_n (k := 0) (by decide +kernel) rfl, ?_⟩
  refine List.forall_mem_cons.2 ⟨s_getfield (C := q_n8) (T := q_T8) (N := 39) (idx := 45) (ref := "ProofDeskModel") (by decide +kernel) rfl q_in8 (by decide) (x_up mw_654) rfl, ?_⟩
  refine List.forall_mem_cons.2 ⟨s_aload_n (k := 0) (by decide +kernel) rfl, ?_⟩
  refine List.forall_mem_cons.2 ⟨s_getfield (C := q_n8) (T := q_T8) (N := 39) (idx := 130) (ref := "ProofDeskModel") (by decide +kernel) rfl q_in8 (by decide) (x_up mw_697) rfl, ?_⟩
  refine List.forall_mem_cons.2 ⟨s_iald (by decide +kernel) rfl, ?_⟩
  refine List.forall_mem_cons.2 ⟨s_putfield (C := q_n8) (T := q_T8) (N := 39) (idx := 101) (ref := "ProofDeskModel") q_t8 (by decide +kernel) rfl q_in8 q_ty8 q_nm8 (by decide) (x_up mw_676) rfl rfl (by decide +kernel), ?_⟩
  refine List.forall_mem_cons.2 ⟨s_return (by decide +kernel) rfl, ?_⟩
  exact fun _ h => absurd h List.not_mem_nil
def q_k103 : List (Nat × xO) := q_k103_0 ++ q_k103_1 ++ q_k103_2 ++ q_k103_3
theorem q_s103 (l : Launch) (s0 : State) : ∀ q ∈ q_k103, x_Sim (x_K s0) none l q_y103 q_c103 4 none q_w103 q.1 q.2 := by
  intro q hq
  simp only [q_k103, List.mem_append] at hq
  rcases hq with ((h0 | h1) | h2) | h3
  · exact q_s103_0 l s0 q h0
  · exact q_s103_1 l s0 q h1
  · exact q_s103_2 l s0 q h2
  · exact q_s103_3 l s0 q h3
/-- ProofDeskModel.isTwice(I)Z -/
def q_k104_0 : List (Nat × xO) := [(0, x_st (x_push 1 (.int (0)))), (1, x_sti 2 2), (2, x_lda 3 0), (3, x_gf 6 8 18), (6, x_ldi 7 1), (7, x_st (x_push 8 (.int (1)))), (8, x_st (x_bin 9 (fun a b => a + b))), (9, x_ald 10 0), (10, x_lda 11 0), (11, x_gf 14 8 18), (14, x_ldi 15 1), (15, x_ald 16 0), (16, x_st (x_bin 17 (fun a b => a - b))), (17, x_sti 18 3), (18, x_st (x_push 19 (.int (0)))), (19, x_sti 21 4), (21, x_ldi 23 4), (23, x_ldi 24 1), (24, x_st (x_icge 137 27)), (27, x_ldi 28 2), (28, x_st (x_ifne 137 31)), (31, x_lda 32 0), (32, x_gf 35 8 20), (35, x_ldi 37 4), (37, x_ald 38 1), (38, x_lda 39 0), (39, x_gf 42 8 20), (42, x_ldi 43 1), (43, x_ald 44 1), (44, x_st (x_icne 72 47)), (47, x_lda 48 0), (48, x_gf 51 8 18), (51, x_ldi 53 4), (53, x_st (x_push 54 (.int (1)))), (54, x_st (x_bin 55 (fun a b => a + b))), (55, x_ald 56 0), (56, x_lda 57 0), (57, x_gf 60 8 18), (60, x_ldi 62 4), (62, x_ald 63 0)]
set_option maxRecDepth 100000 in
set_option maxHeartbeats 4000000 in
theorem q_s104_0 (l : Launch) (s0 : State) : ∀ q ∈ q_k104_0, x_Sim (x_K s0) none l q_y104 q_c104 6 (some .boolean) q_w104 q.1 q.2 := by
  unfold q_k104_0
  refine List.forall_mem_cons.2 ⟨s_iconst (k := 0) (by decide +kernel) (by decide +kernel), ?_⟩
  refine List.forall_mem_cons.2 ⟨s_istore_n (k := 2) (by decide +kernel) rfl (by decide), ?_⟩
  refine List.forall_mem_cons.2 ⟨s_aload_n (k := 0) (by decide +kernel) rfl, ?_⟩
  refine List.forall_mem_cons.2 ⟨s_getfield (C := q_n8) (T := q_T8) (N := 39) (idx := 45) (ref := "ProofDeskModel") (by decide +kernel) rfl q_in8 (by decide) (x_up mw_654) rfl, ?_⟩
  refine List.forall_mem_cons.2 ⟨s_iload_n (k := 1) (by decide +kernel) rfl, ?_⟩
  refine List.forall_mem_cons.2 ⟨s_iconst (k := 1) (by decide +kernel) (by decide +kernel), ?_⟩
  refine List.forall_mem_cons.2 ⟨s_iadd (by decide +kernel), ?_⟩
  refine List.forall_mem_cons.2 ⟨s_iald (by decide +kernel) rfl, ?_⟩
  refine List.forall_mem_cons.2 ⟨s_aload_n (k := 0) (by decide +kernel) rfl, ?_⟩
  refine List.forall_mem_cons.2 ⟨s_getfield (C := q_n8) (T := q_T8) (N := 39) (idx := 45) (ref := "ProofDeskModel") (by decide +kernel) rfl q_in8 (by decide) (x_up mw_654) rfl, ?_⟩
  refine List.forall_mem_cons.2 ⟨s_iload_n (k := 1) (by decide +kernel) rfl, ?_⟩
  refine List.forall_mem_cons.2 ⟨s_iald (by decide +kernel) rfl, ?_⟩
  refine List.forall_mem_cons.2 ⟨s_isub (by decide +kernel), ?_⟩
  refine List.forall_mem_cons.2 ⟨s_istore_n (k := 3) (by decide +kernel) rfl (by decide), ?_⟩
  refine List.forall_mem_cons.2 ⟨s_iconst (k := 0) (by decide +kernel) (by decide +kernel), ?_⟩
  refine List.forall_mem_cons.2 ⟨s_istore (by decide +kernel) (by decide), ?_⟩
  refine List.forall_mem_cons.2 ⟨s_iload (by decide +kernel), ?_⟩
  refine List.forall_mem_cons.2 ⟨s_iload_n (k := 1) (by decide +kernel) rfl, ?_⟩
  refine List.forall_mem_cons.2 ⟨s_icmp_ge (off := 113) (by decide +kernel) (by decide), ?_⟩
  refine List.forall_mem_cons.2 ⟨s_iload_n (k := 2) (by decide +kernel) rfl, ?_⟩
  refine List.forall_mem_cons.2 ⟨s_ifne (off := 109) (by decide +kernel) (by decide), ?_⟩
  refine List.forall_mem_cons.2 ⟨s_aload_n (k := 0) (by decide +kernel) rfl, ?_⟩
  refine List.forall_mem_cons.2 ⟨s_getfield (C := q_n8) (T := q_T8) (N := 39) (idx := 51) (ref := "ProofDeskModel") (by decide +kernel) rfl q_in8 (by decide) (x_up mw_656) rfl, ?_⟩
  refine List.forall_mem_cons.2 ⟨s_iload (by decide +kernel), ?_⟩
  refine List.forall_mem_cons.2 ⟨s_zald (by decide +kernel) rfl, ?_⟩
  refine List.forall_mem_cons.2 ⟨s_aload_n (k := 0) (by decide +kernel) rfl, ?_⟩
  refine List.forall_mem_cons.2 ⟨s_getfield (C := q_n8) (T := q_T8) (N := 39) (idx := 51) (ref := "ProofDeskModel") (by decide +kernel) rfl q_in8 (by decide) (x_up mw_656) rfl, ?_⟩
  refine List.forall_mem_cons.2 ⟨s_iload_n (k := 1) (by decide +kernel) rfl, ?_⟩
  refine List.forall_mem_cons.2 ⟨s_zald (by decide +kernel) rfl, ?_⟩
  refine List.forall_mem_cons.2 ⟨s_icmp_ne (off := 28) (by decide +kernel) (by decide), ?_⟩
  refine List.forall_mem_cons.2 ⟨s_aload_n (k := 0) (by decide +kernel) rfl, ?_⟩
  refine List.forall_mem_cons.2 ⟨s_getfield (C := q_n8) (T := q_T8) (N := 39) (idx := 45) (ref := "ProofDeskModel") (by decide +kernel) rfl q_in8 (by decide) (x_up mw_654) rfl, ?_⟩
  refine List.forall_mem_cons.2 ⟨s_iload (by decide +kernel), ?_⟩
  refine List.forall_mem_cons.2 ⟨s_iconst (k := 1) (by decide +kernel) (by decide +kernel), ?_⟩
  refine List.forall_mem_cons.2 ⟨s_iadd (by decide +kernel), ?_⟩
  refine List.forall_mem_cons.2 ⟨s_iald (by decide +kernel) rfl, ?_⟩
  refine List.forall_mem_cons.2 ⟨s_aload_n (k := 0) (by decide +kernel) rfl, ?_⟩
  refine List.forall_mem_cons.2 ⟨s_getfield (C := q_n8) (T := q_T8) (N := 39) (idx := 45) (ref := "ProofDeskModel") (by decide +kernel) rfl q_in8 (by decide) (x_up mw_654) rfl, ?_⟩
  refine List.forall_mem_cons.2 ⟨s_iload (by decide +kernel), ?_⟩
  refine List.forall_mem_cons.2 ⟨s_iald (by decide +kernel) rfl, ?_⟩
  exact fun _ h => absurd h List.not_mem_nil
def q_k104_1 : List (Nat × xO) := [(63, x_st (x_bin 64 (fun a b => a - b))), (64, x_ldi 65 3), (65, x_st (x_icne 72 68)), (68, x_st (x_push 69 (.int (1)))), (69, x_st (x_goto 73)), (72, x_st (x_push 73 (.int (0)))), (73, x_sti 74 2), (74, x_st (x_push 75 (.int (0)))), (75, x_sti 77 5), (77, x_ldi 79 5), (79, x_ldi 80 3), (80, x_st (x_icge 131 83)), (83, x_ldi 84 2), (84, x_st (x_ifeq 131 87)), (87, x_lda 88 0), (88, x_gf 91 8 17), (91, x_lda 92 0), (92, x_gf 95 8 18), (95, x_ldi 97 4), (97, x_ald 98 0), (98, x_ldi 100 5), (100, x_st (x_bin 101 (fun a b => a + b))), (101, x_ald 102 0), (102, x_lda 103 0), (103, x_gf 106 8 17), (106, x_lda 107 0), (107, x_gf 110 8 18), (110, x_ldi 111 1), (111, x_ald 112 0), (112, x_ldi 114 5), (114, x_st (x_bin 115 (fun a b => a + b))), (115, x_ald 116 0), (116, x_st (x_icne 123 119)), (119, x_st (x_push 120 (.int (1)))), (120, x_st (x_goto 124)), (123, x_st (x_push 124 (.int (0)))), (124, x_sti 125 2), (125, x_iinc 128 5 (1)), (128, x_st (x_goto 77)), (131, x_iinc 134 4 (1))]
set_option maxRecDepth 100000 in
set_option maxHeartbeats 4000000 in
theorem q_s104_1 (l : Launch) (s0 : State) : ∀ q ∈ q_k104_1, x_Sim (x_K s0) none l q_y104 q_c104 6 (some .boolean) q_w104 q.1 q.2 := by
  unfold q_k104_1
  refine List.forall_mem_cons.2 ⟨s_isub (by decide +kernel), ?_⟩
  refine List.forall_mem_cons.2 ⟨s_iload_n (k := 3) (by decide +kernel) rfl, ?_⟩
  refine List.forall_mem_cons.2 ⟨s_icmp_ne (off := 7) (by decide +kernel) (by decide), ?_⟩
  refine List.forall_mem_cons.2 ⟨s_iconst (k := 1) (by decide +kernel) (by decide +kernel), ?_⟩
  refine List.forall_mem_cons.2 ⟨s_goto (off := 4) (by decide +kernel) (by decide), ?_⟩
  refine List.forall_mem_cons.2 ⟨s_iconst (k := 0) (by decide +kernel) (by decide +kernel), ?_⟩
  refine List.forall_mem_cons.2 ⟨s_istore_n (k := 2) (by decide +kernel) rfl (by decide), ?_⟩
  refine List.forall_mem_cons.2 ⟨s_iconst (k := 0) (by decide +kernel) (by decide +kernel), ?_⟩
  refine List.forall_mem_cons.2 ⟨s_istore (by decide +kernel) (by decide), ?_⟩
  refine List.forall_mem_cons.2 ⟨s_iload (by decide +kernel), ?_⟩
  refine List.forall_mem_cons.2 ⟨s_iload_n (k := 3) (by decide +kernel) rfl, ?_⟩
  refine List.forall_mem_cons.2 ⟨s_icmp_ge (off := 51) (by decide +kernel) (by decide), ?_⟩
  refine List.forall_mem_cons.2 ⟨s_iload_n (k := 2) (by decide +kernel) rfl, ?_⟩
  refine List.forall_mem_cons.2 ⟨s_ifeq (off := 47) (by decide +kernel) (by decide), ?_⟩
  refine List.forall_mem_cons.2 ⟨s_aload_n (k := 0) (by decide +kernel) rfl, ?_⟩
  refine List.forall_mem_cons.2 ⟨s_getfield (C := q_n8) (T := q_T8) (N := 39) (idx := 42) (ref := "ProofDeskModel") (by decide +kernel) rfl q_in8 (by decide) (x_up mw_653) rfl, ?_⟩
  refine List.forall_mem_cons.2 ⟨s_aload_n (k := 0) (by decide +kernel) rfl, ?_⟩
  refine List.forall_mem_cons.2 ⟨s_getfield (C := q_n8) (T := q_T8) (N := 39) (idx := 45) (ref := "ProofDeskModel") (by decide +kernel) rfl q_in8 (by decide) (x_up mw_654) rfl, ?_⟩
  refine List.forall_mem_cons.2 ⟨s_iload (by decide +kernel), ?_⟩
  refine List.forall_mem_cons.2 ⟨s_iald (by decide +kernel) rfl, ?_⟩
  refine List.forall_mem_cons.2 ⟨s_iload (by decide +kernel), ?_⟩
  refine List.forall_mem_cons.2 ⟨s_iadd (by decide +kernel), ?_⟩
  refine List.forall_mem_cons.2 ⟨s_iald (by decide +kernel) rfl, ?_⟩
  refine List.forall_mem_cons.2 ⟨s_aload_n (k := 0) (by decide +kernel) rfl, ?_⟩
  refine List.forall_mem_cons.2 ⟨s_getfield (C := q_n8) (T := q_T8) (N := 39) (idx := 42) (ref := "ProofDeskModel") (by decide +kernel) rfl q_in8 (by decide) (x_up mw_653) rfl, ?_⟩
  refine List.forall_mem_cons.2 ⟨s_aload_n (k := 0) (by decide +kernel) rfl, ?_⟩
  refine List.forall_mem_cons.2 ⟨s_getfield (C := q_n8) (T := q_T8) (N := 39) (idx := 45) (ref := "ProofDeskModel") (by decide +kernel) rfl q_in8 (by decide) (x_up mw_654) rfl, ?_⟩
  refine List.forall_mem_cons.2 ⟨s_iload_n (k := 1) (by decide +kernel) rfl, ?_⟩
  refine List.forall_mem_cons.2 ⟨s_iald (by decide +kernel) rfl, ?_⟩
  refine List.forall_mem_cons.2 ⟨s_iload (by decide +kernel), ?_⟩
  refine List.forall_mem_cons.2 ⟨s_iadd (by decide +kernel), ?_⟩
  refine List.forall_mem_cons.2 ⟨s_iald (by decide +kernel) rfl, ?_⟩
  refine List.forall_mem_cons.2 ⟨s_icmp_ne (off := 7) (by decide +kernel) (by decide), ?_⟩
  refine List.forall_mem_cons.2 ⟨s_iconst (k := 1) (by decide +kernel) (by decide +kernel), ?_⟩
  refine List.forall_mem_cons.2 ⟨s_goto (off := 4) (by decide +kernel) (by decide), ?_⟩
  refine List.forall_mem_cons.2 ⟨s_iconst (k := 0) (by decide +kernel) (by decide +kernel), ?_⟩
  refine List.forall_mem_cons.2 ⟨s_istore_n (k := 2) (by decide +kernel) rfl (by decide), ?_⟩
  refine List.forall_mem_cons.2 ⟨s_iinc (k := 1) (by decide +kernel) (by decide +kernel) (by decide), ?_⟩
  refine List.forall_mem_cons.2 ⟨s_goto (off := -51) (by decide +kernel) (by decide), ?_⟩
  refine List.forall_mem_cons.2 ⟨s_iinc (k := 1) (by decide +kernel) (by decide +kernel) (by decide), ?_⟩
  exact fun _ h => absurd h List.not_mem_nil
def q_k104_2 : List (Nat × xO) := [(134, x_st (x_goto 21)), (137, x_ldi 138 2), (138, x_ri (.boolean))]
set_option maxRecDepth 100000 in
set_option maxHeartbeats 4000000 in
theorem q_s104_2 (l : Launch) (s0 : State) : ∀ q ∈ q_k104_2, x_Sim (x_K s0) none l q_y104 q_c104 6 (some .boolean) q_w104 q.1 q.2 := by
  unfold q_k104_2
  refine List.forall_mem_cons.2 ⟨s_goto (off := -113) (by decide +kernel) (by decide), ?_⟩
  refine List.forall_mem_cons.2 ⟨s_iload_n (k := 2) (by decide +kernel) rfl, ?_⟩
  refine List.forall_mem_cons.2 ⟨s_ireturn (ty := .boolean) (by decide +kernel) rfl, ?_⟩
  exact fun _ h => absurd h List.not_mem_nil
def q_k104 : List (Nat × xO) := q_k104_0 ++ q_k104_1 ++ q_k104_2
theorem q_s104 (l : Launch) (s0 : State) : ∀ q ∈ q_k104, x_Sim (x_K s0) none l q_y104 q_c104 6 (some .boolean) q_w104 q.1 q.2 := by
  intro q hq
  simp only [q_k104, List.mem_append] at hq
  rcases hq with (h0 | h1) | h2
  · exact q_s104_0 l s0 q h0
  · exact q_s104_1 l s0 q h1
  · exact q_s104_2 l s0 q h2
/-- ProofDeskModel.read()I -/
def q_k105_0 : List (Nat × xO) := [(0, x_lda 1 0), (1, x_st (x_push 2 (.int (0)))), (2, x_pf 5 8 14 (.int)), (5, x_lda 6 0), (6, x_st (x_push 7 (.int (0)))), (7, x_pf 10 8 21 (.int)), (10, x_lda 11 0), (11, x_st (x_push 12 (.int (0)))), (12, x_pf 15 8 22 (.int)), (15, x_lda 16 0), (16, x_gf 19 8 18), (19, x_st (x_push 20 (.int (0)))), (20, x_st (x_push 21 (.int (0)))), (21, x_ast 22 0 (fun x => x)), (22, x_lda 23 0), (23, x_st (x_push 24 (.int (0)))), (24, x_pf 27 8 15 (.boolean)), (27, x_lda 28 0), (28, x_st (x_push 29 (.int (0)))), (29, x_pf 32 8 16 (.boolean)), (32, x_st (x_push 33 (.int (0)))), (33, x_sti 34 1), (34, x_st (x_push 35 (.int (0)))), (35, x_sti 36 2), (36, x_ldi 37 2), (37, x_st (x_push 39 (.int (26)))), (39, x_st (x_icge 60 42)), (42, x_lda 43 0), (43, x_gf 46 8 11), (46, x_ldi 47 2), (47, x_lda 48 0), (48, x_gf 51 8 10), (51, x_ldi 52 2), (52, x_ald 53 0), (53, x_ast 54 0 (fun x => x)), (54, x_iinc 57 2 (1)), (57, x_st (x_goto 36)), (60, x_lda 61 0), (61, x_gf 64 8 13), (64, x_st (x_push 65 (.int (1))))]
set_option maxRecDepth 100000 in
set_option maxHeartbeats 4000000 in
theorem q_s105_0 (l : Launch) (s0 : State) : ∀ q ∈ q_k105_0, x_Sim (x_K s0) none l q_y105 q_c105 3 (some .int) q_w105 q.1 q.2 := by
  unfold q_k105_0
  refine List.forall_mem_cons.2 ⟨s_aload_n (k := 0) (by decide +kernel) rfl, ?_⟩
  refine List.forall_mem_cons.2 ⟨s_iconst (k := 0) (by decide +kernel) (by decide +kernel), ?_⟩
  refine List.forall_mem_cons.2 ⟨s_putfield (C := q_n8) (T := q_T8) (N := 39) (idx := 94) (ref := "ProofDeskModel") q_t8 (by decide +kernel) rfl q_in8 q_ty8 q_nm8 (by decide) (x_up mw_670) rfl rfl (by decide +kernel), ?_⟩
  refine List.forall_mem_cons.2 ⟨s_aload_n (k := 0) (by decide +kernel) rfl, ?_⟩
  refine List.forall_mem_cons.2 ⟨s_iconst (k := 0) (by decide +kernel) (by decide +kernel), ?_⟩
  refine List.forall_mem_cons.2 ⟨s_putfield (C := q_n8) (T := q_T8) (N := 39) (idx := 101) (ref := "ProofDeskModel") q_t8 (by decide +kernel) rfl q_in8 q_ty8 q_nm8 (by decide) (x_up mw_676) rfl rfl (by decide +kernel), ?_⟩
  refine List.forall_mem_cons.2 ⟨s_aload_n (k := 0) (by decide +kernel) rfl, ?_⟩
  refine List.forall_mem_cons.2 ⟨s_iconst (k := 0) (by decide +kernel) (by decide +kernel), ?_⟩
  refine List.forall_mem_cons.2 ⟨s_putfield (C := q_n8) (T := q_T8) (N := 39) (idx := 130) (ref := "ProofDeskModel") q_t8 (by decide +kernel) rfl q_in8 q_ty8 q_nm8 (by decide) (x_up mw_697) rfl rfl (by decide +kernel), ?_⟩
  refine List.forall_mem_cons.2 ⟨s_aload_n (k := 0) (by decide +kernel) rfl, ?_⟩
  refine List.forall_mem_cons.2 ⟨s_getfield (C := q_n8) (T := q_T8) (N := 39) (idx := 45) (ref := "ProofDeskModel") (by decide +kernel) rfl q_in8 (by decide) (x_up mw_654) rfl, ?_⟩
  refine List.forall_mem_cons.2 ⟨s_iconst (k := 0) (by decide +kernel) (by decide +kernel), ?_⟩
  refine List.forall_mem_cons.2 ⟨s_iconst (k := 0) (by decide +kernel) (by decide +kernel), ?_⟩
  refine List.forall_mem_cons.2 ⟨s_iast (by decide +kernel) rfl, ?_⟩
  refine List.forall_mem_cons.2 ⟨s_aload_n (k := 0) (by decide +kernel) rfl, ?_⟩
  refine List.forall_mem_cons.2 ⟨s_iconst (k := 0) (by decide +kernel) (by decide +kernel), ?_⟩
  refine List.forall_mem_cons.2 ⟨s_putfield (C := q_n8) (T := q_T8) (N := 39) (idx := 108) (ref := "ProofDeskModel") q_t8 (by decide +kernel) rfl q_in8 q_ty8 q_nm8 (by decide) (x_up mw_678) rfl rfl (by decide +kernel), ?_⟩
  refine List.forall_mem_cons.2 ⟨s_aload_n (k := 0) (by decide +kernel) rfl, ?_⟩
  refine List.forall_mem_cons.2 ⟨s_iconst (k := 0) (by decide +kernel) (by decide +kernel), ?_⟩
  refine List.forall_mem_cons.2 ⟨s_putfield (C := q_n8) (T := q_T8) (N := 39) (idx := 104) (ref := "ProofDeskModel") q_t8 (by decide +kernel) rfl q_in8 q_ty8 q_nm8 (by decide) (x_up mw_677) rfl rfl (by decide +kernel), ?_⟩
  refine List.forall_mem_cons.2 ⟨s_iconst (k := 0) (by decide +kernel) (by decide +kernel), ?_⟩
  refine List.forall_mem_cons.2 ⟨s_istore_n (k := 1) (by decide +kernel) rfl (by decide), ?_⟩
  refine List.forall_mem_cons.2 ⟨s_iconst (k := 0) (by decide +kernel) (by decide +kernel), ?_⟩
  refine List.forall_mem_cons.2 ⟨s_istore_n (k := 2) (by decide +kernel) rfl (by decide), ?_⟩
  refine List.forall_mem_cons.2 ⟨s_iload_n (k := 2) (by decide +kernel) rfl, ?_⟩
  refine List.forall_mem_cons.2 ⟨s_bipush (k := 26) (by decide +kernel) (by decide +kernel), ?_⟩
  refine List.forall_mem_cons.2 ⟨s_icmp_ge (off := 21) (by decide +kernel) (by decide), ?_⟩
  refine List.forall_mem_cons.2 ⟨s_aload_n (k := 0) (by decide +kernel) rfl, ?_⟩
  refine List.forall_mem_cons.2 ⟨s_getfield (C := q_n8) (T := q_T8) (N := 39) (idx := 35) (ref := "ProofDeskModel") (by decide +kernel) rfl q_in8 (by decide) (x_up mw_651) rfl, ?_⟩
  refine List.forall_mem_cons.2 ⟨s_iload_n (k := 2) (by decide +kernel) rfl, ?_⟩
  refine List.forall_mem_cons.2 ⟨s_aload_n (k := 0) (by decide +kernel) rfl, ?_⟩
  refine List.forall_mem_cons.2 ⟨s_getfield (C := q_n8) (T := q_T8) (N := 39) (idx := 32) (ref := "ProofDeskModel") (by decide +kernel) rfl q_in8 (by decide) (x_up mw_650) rfl, ?_⟩
  refine List.forall_mem_cons.2 ⟨s_iload_n (k := 2) (by decide +kernel) rfl, ?_⟩
  refine List.forall_mem_cons.2 ⟨s_iald (by decide +kernel) rfl, ?_⟩
  refine List.forall_mem_cons.2 ⟨s_iast (by decide +kernel) rfl, ?_⟩
  refine List.forall_mem_cons.2 ⟨s_iinc (k := 1) (by decide +kernel) (by decide +kernel) (by decide), ?_⟩
  refine List.forall_mem_cons.2 ⟨s_goto (off := -21) (by decide +kernel) (by decide), ?_⟩
  refine List.forall_mem_cons.2 ⟨s_aload_n (k := 0) (by decide +kernel) rfl, ?_⟩
  refine List.forall_mem_cons.2 ⟨s_getfield (C := q_n8) (T := q_T8) (N := 39) (idx := 91) (ref := "ProofDeskModel") (by decide +kernel) rfl q_in8 (by decide) (x_up mw_669) rfl, ?_⟩
  refine List.forall_mem_cons.2 ⟨s_iconst (k := 1) (by decide +kernel) (by decide +kernel), ?_⟩
  exact fun _ h => absurd h List.not_mem_nil
def q_k105_1 : List (Nat × xO) := [(65, x_st (x_icne 81 68)), (68, x_lda 69 0), (69, x_gf 72 8 12), (72, x_st (x_push 73 (.int (0)))), (73, x_ald 74 2), (74, x_st (x_push 76 (.int (35)))), (76, x_st (x_icne 81 79)), (79, x_st (x_push 80 (.int (0)))), (80, x_ri (.int)), (81, x_st (x_push 82 (.int (1)))), (82, x_sti 83 2), (83, x_ldi 84 2), (84, x_st (x_ifeq 148 87)), (87, x_lda 88 0), (88, x_gf 91 8 15), (91, x_st (x_ifne 148 94)), (94, x_lda 95 0), (95, x_cv 98 103 1 8), (98, x_ldi 99 1), (99, x_st (x_ifne 111 102)), (102, x_lda 103 0), (103, x_gf 106 8 22), (106, x_st (x_push 108 (.int (6)))), (108, x_st (x_icle 115 111)), (111, x_st (x_push 112 (.int (1)))), (112, x_st (x_goto 116)), (115, x_st (x_push 116 (.int (0)))), (116, x_sti 117 1), (117, x_ldi 118 1), (118, x_st (x_ifeq 138 121)), (121, x_lda 122 0), (122, x_st (x_push 124 (.int (6)))), (124, x_pf 127 8 22 (.int)), (127, x_lda 128 0), (128, x_lda 129 0), (129, x_gf 132 8 18), (132, x_st (x_push 134 (.int (6)))), (134, x_ald 135 0), (135, x_pf 138 8 21 (.int)), (138, x_lda 139 0)]
set_option maxRecDepth 100000 in
set_option maxHeartbeats 4000000 in
theorem q_s105_1 (l : Launch) (s0 : State) : ∀ q ∈ q_k105_1, x_Sim (x_K s0) none l q_y105 q_c105 3 (some .int) q_w105 q.1 q.2 := by
  unfold q_k105_1
  refine List.forall_mem_cons.2 ⟨s_icmp_ne (off := 16) (by decide +kernel) (by decide), ?_⟩
  refine List.forall_mem_cons.2 ⟨s_aload_n (k := 0) (by decide +kernel) rfl, ?_⟩
  refine List.forall_mem_cons.2 ⟨s_getfield (C := q_n8) (T := q_T8) (N := 39) (idx := 38) (ref := "ProofDeskModel") (by decide +kernel) rfl q_in8 (by decide) (x_up mw_652) rfl, ?_⟩
  refine List.forall_mem_cons.2 ⟨s_iconst (k := 0) (by decide +kernel) (by decide +kernel), ?_⟩
  refine List.forall_mem_cons.2 ⟨s_cald (by decide +kernel) rfl, ?_⟩
  refine List.forall_mem_cons.2 ⟨s_bipush (k := 35) (by decide +kernel) (by decide +kernel), ?_⟩
  refine List.forall_mem_cons.2 ⟨s_icmp_ne (off := 5) (by decide +kernel) (by decide), ?_⟩
  refine List.forall_mem_cons.2 ⟨s_iconst (k := 0) (by decide +kernel) (by decide +kernel), ?_⟩
  refine List.forall_mem_cons.2 ⟨s_ireturn (ty := .int) (by decide +kernel) rfl, ?_⟩
  refine List.forall_mem_cons.2 ⟨s_iconst (k := 1) (by decide +kernel) (by decide +kernel), ?_⟩
  refine List.forall_mem_cons.2 ⟨s_istore_n (k := 2) (by decide +kernel) rfl (by decide), ?_⟩
  refine List.forall_mem_cons.2 ⟨s_iload_n (k := 2) (by decide +kernel) rfl, ?_⟩
  refine List.forall_mem_cons.2 ⟨s_ifeq (off := 64) (by decide +kernel) (by decide), ?_⟩
  refine List.forall_mem_cons.2 ⟨s_aload_n (k := 0) (by decide +kernel) rfl, ?_⟩
  refine List.forall_mem_cons.2 ⟨s_getfield (C := q_n8) (T := q_T8) (N := 39) (idx := 108) (ref := "ProofDeskModel") (by decide +kernel) rfl q_in8 (by decide) (x_up mw_678) rfl, ?_⟩
  refine List.forall_mem_cons.2 ⟨s_ifne (off := 57) (by decide +kernel) (by decide), ?_⟩
  refine List.forall_mem_cons.2 ⟨s_aload_n (k := 0) (by decide +kernel) rfl, ?_⟩
  refine List.forall_mem_cons.2 ⟨s_invokevirtual (idx := 144) (M := 103) (k := 0) (ci := 8) (C := q_n8) (T := q_T8) (N := 39) (ym := q_y103) (wm := q_w103) (by decide +kernel) rfl rfl rfl (x_gdV mw_711 mw_712 mw_713 mw_675 mw_710) rfl (by decide +kernel) (by decide), ?_⟩
  refine List.forall_mem_cons.2 ⟨s_iload_n (k := 1) (by decide +kernel) rfl, ?_⟩
  refine List.forall_mem_cons.2 ⟨s_ifne (off := 12) (by decide +kernel) (by decide), ?_⟩
  refine List.forall_mem_cons.2 ⟨s_aload_n (k := 0) (by decide +kernel) rfl, ?_⟩
  refine List.forall_mem_cons.2 ⟨s_getfield (C := q_n8) (T := q_T8) (N := 39) (idx := 130) (ref := "ProofDeskModel") (by decide +kernel) rfl q_in8 (by decide) (x_up mw_697) rfl, ?_⟩
  refine List.forall_mem_cons.2 ⟨s_bipush (k := 6) (by decide +kernel) (by decide +kernel), ?_⟩
  refine List.forall_mem_cons.2 ⟨s_icmp_le (off := 7) (by decide +kernel) (by decide), ?_⟩
  refine List.forall_mem_cons.2 ⟨s_iconst (k := 1) (by decide +kernel) (by decide +kernel), ?_⟩
  refine List.forall_mem_cons.2 ⟨s_goto (off := 4) (by decide +kernel) (by decide), ?_⟩
  refine List.forall_mem_cons.2 ⟨s_iconst (k := 0) (by decide +kernel) (by decide +kernel), ?_⟩
  refine List.forall_mem_cons.2 ⟨s_istore_n (k := 1) (by decide +kernel) rfl (by decide), ?_⟩
  refine List.forall_mem_cons.2 ⟨s_iload_n (k := 1) (by decide +kernel) rfl, ?_⟩
  refine List.forall_mem_cons.2 ⟨s_ifeq (off := 20) (by decide +kernel) (by decide), ?_⟩
  refine List.forall_mem_cons.2 ⟨s_aload_n (k := 0) (by decide +kernel) rfl, ?_⟩
  refine List.forall_mem_cons.2 ⟨s_bipush (k := 6) (by decide +kernel) (by decide +kernel), ?_⟩
  refine List.forall_mem_cons.2 ⟨s_putfield (C := q_n8) (T := q_T8) (N := 39) (idx := 130) (ref := "ProofDeskModel") q_t8 (by decide +kernel) rfl q_in8 q_ty8 q_nm8 (by decide) (x_up mw_697) rfl rfl (by decide +kernel), ?_⟩
  refine List.forall_mem_cons.2 ⟨s_aload_n (k := 0) (by decide +kernel) rfl, ?_⟩
  refine List.forall_mem_cons.2 ⟨s_aload_n (k := 0) (by decide +kernel) rfl, ?_⟩
  refine List.forall_mem_cons.2 ⟨s_getfield (C := q_n8) (T := q_T8) (N := 39) (idx := 45) (ref := "ProofDeskModel") (by decide +kernel) rfl q_in8 (by decide) (x_up mw_654) rfl, ?_⟩
  refine List.forall_mem_cons.2 ⟨s_bipush (k := 6) (by decide +kernel) (by decide +kernel), ?_⟩
  refine List.forall_mem_cons.2 ⟨s_iald (by decide +kernel) rfl, ?_⟩
  refine List.forall_mem_cons.2 ⟨s_putfield (C := q_n8) (T := q_T8) (N := 39) (idx := 101) (ref := "ProofDeskModel") q_t8 (by decide +kernel) rfl q_in8 q_ty8 q_nm8 (by decide) (x_up mw_676) rfl rfl (by decide +kernel), ?_⟩
  refine List.forall_mem_cons.2 ⟨s_aload_n (k := 0) (by decide +kernel) rfl, ?_⟩
  exact fun _ h => absurd h List.not_mem_nil
def q_k105_2 : List (Nat × xO) := [(139, x_st (x_push 141 (.int (124)))), (141, x_cv 144 96 2 8), (144, x_sti 145 2), (145, x_st (x_goto 83)), (148, x_lda 149 0), (149, x_gf 152 8 15), (152, x_st (x_ifne 179 155)), (155, x_ldi 156 1), (156, x_st (x_ifne 179 159)), (159, x_lda 160 0), (160, x_gf 163 8 14), (163, x_lda 164 0), (164, x_gf 167 8 13), (167, x_st (x_iclt 179 170)), (170, x_lda 171 0), (171, x_gf 174 8 21), (174, x_st (x_push 176 (.int (40)))), (176, x_st (x_icle 181 179)), (179, x_st (x_push 180 (.int (-1)))), (180, x_ri (.int)), (181, x_lda 182 0), (182, x_gf 185 8 16), (185, x_st (x_ifeq 193 188)), (188, x_st (x_push 190 (.int (-2)))), (190, x_st (x_goto 194)), (193, x_st (x_push 194 (.int (0)))), (194, x_ri (.int))]
set_option maxRecDepth 100000 in
set_option maxHeartbeats 4000000 in
theorem q_s105_2 (l : Launch) (s0 : State) : ∀ q ∈ q_k105_2, x_Sim (x_K s0) none l q_y105 q_c105 3 (some .int) q_w105 q.1 q.2 := by
  unfold q_k105_2
  refine List.forall_mem_cons.2 ⟨s_bipush (k := 124) (by decide +kernel) (by decide +kernel), ?_⟩
  refine List.forall_mem_cons.2 ⟨s_invokevirtual (idx := 119) (M := 96) (k := 1) (ci := 8) (C := q_n8) (T := q_T8) (N := 39) (ym := q_y96) (wm := q_w96) (by decide +kernel) rfl rfl rfl (x_gdV mw_687 mw_688 mw_689 mw_675 mw_686) rfl (by decide +kernel) (by decide), ?_⟩
  refine List.forall_mem_cons.2 ⟨s_istore_n (k := 2) (by decide +kernel) rfl (by decide), ?_⟩
  refine List.forall_mem_cons.2 ⟨s_goto (off := -62) (by decide +kernel) (by decide), ?_⟩
  refine List.forall_mem_cons.2 ⟨s_aload_n (k := 0) (by decide +kernel) rfl, ?_⟩
  refine List.forall_mem_cons.2 ⟨s_getfield (C := q_n8) (T := q_T8) (N := 39) (idx := 108) (ref := "ProofDeskModel") (by decide +kernel) rfl q_in8 (by decide) (x_up mw_678) rfl, ?_⟩
  refine List.forall_mem_cons.2 ⟨s_ifne (off := 27) (by decide +kernel) (by decide), ?_⟩
  refine List.forall_mem_cons.2 ⟨s_iload_n (k := 1) (by decide +kernel) rfl, ?_⟩
  refine List.forall_mem_cons.2 ⟨s_ifne (off := 23) (by decide +kernel) (by decide), ?_⟩
  refine List.forall_mem_cons.2 ⟨s_aload_n (k := 0) (by decide +kernel) rfl, ?_⟩
  refine List.forall_mem_cons.2 ⟨s_getfield (C := q_n8) (T := q_T8) (N := 39) (idx := 94) (ref := "ProofDeskModel") (by decide +kernel) rfl q_in8 (by decide) (x_up mw_670) rfl, ?_⟩
  refine List.forall_mem_cons.2 ⟨s_aload_n (k := 0) (by decide +kernel) rfl, ?_⟩
  refine List.forall_mem_cons.2 ⟨s_getfield (C := q_n8) (T := q_T8) (N := 39) (idx := 91) (ref := "ProofDeskModel") (by decide +kernel) rfl q_in8 (by decide) (x_up mw_669) rfl, ?_⟩
  refine List.forall_mem_cons.2 ⟨s_icmp_lt (off := 12) (by decide +kernel) (by decide), ?_⟩
  refine List.forall_mem_cons.2 ⟨s_aload_n (k := 0) (by decide +kernel) rfl, ?_⟩
  refine List.forall_mem_cons.2 ⟨s_getfield (C := q_n8) (T := q_T8) (N := 39) (idx := 101) (ref := "ProofDeskModel") (by decide +kernel) rfl q_in8 (by decide) (x_up mw_676) rfl, ?_⟩
  refine List.forall_mem_cons.2 ⟨s_bipush (k := 40) (by decide +kernel) (by decide +kernel), ?_⟩
  refine List.forall_mem_cons.2 ⟨s_icmp_le (off := 5) (by decide +kernel) (by decide), ?_⟩
  refine List.forall_mem_cons.2 ⟨s_iconst (k := -1) (by decide +kernel) (by decide +kernel), ?_⟩
  refine List.forall_mem_cons.2 ⟨s_ireturn (ty := .int) (by decide +kernel) rfl, ?_⟩
  refine List.forall_mem_cons.2 ⟨s_aload_n (k := 0) (by decide +kernel) rfl, ?_⟩
  refine List.forall_mem_cons.2 ⟨s_getfield (C := q_n8) (T := q_T8) (N := 39) (idx := 104) (ref := "ProofDeskModel") (by decide +kernel) rfl q_in8 (by decide) (x_up mw_677) rfl, ?_⟩
  refine List.forall_mem_cons.2 ⟨s_ifeq (off := 8) (by decide +kernel) (by decide), ?_⟩
  refine List.forall_mem_cons.2 ⟨s_bipush (k := -2) (by decide +kernel) (by decide +kernel), ?_⟩
  refine List.forall_mem_cons.2 ⟨s_goto (off := 4) (by decide +kernel) (by decide), ?_⟩
  refine List.forall_mem_cons.2 ⟨s_iconst (k := 0) (by decide +kernel) (by decide +kernel), ?_⟩
  refine List.forall_mem_cons.2 ⟨s_ireturn (ty := .int) (by decide +kernel) rfl, ?_⟩
  exact fun _ h => absurd h List.not_mem_nil
def q_k105 : List (Nat × xO) := q_k105_0 ++ q_k105_1 ++ q_k105_2
theorem q_s105 (l : Launch) (s0 : State) : ∀ q ∈ q_k105, x_Sim (x_K s0) none l q_y105 q_c105 3 (some .int) q_w105 q.1 q.2 := by
  intro q hq
  simp only [q_k105, List.mem_append] at hq
  rcases hq with (h0 | h1) | h2
  · exact q_s105_0 l s0 q h0
  · exact q_s105_1 l s0 q h1
  · exact q_s105_2 l s0 q h2
/-- ProofDeskModel.rename()V -/
def q_k106_0 : List (Nat × xO) := [(0, x_lda 1 0), (1, x_st (x_push 2 (.int (0)))), (2, x_pf 5 8 23 (.int)), (5, x_st (x_push 6 (.int (0)))), (6, x_sti 7 1), (7, x_ldi 8 1), (8, x_st (x_push 10 (.int (52)))), (10, x_st (x_icge 26 13)), (13, x_lda 14 0), (14, x_gf 17 8 19), (17, x_ldi 18 1), (18, x_st (x_push 19 (.int (-1)))), (19, x_ast 20 0 (fun x => x)), (20, x_iinc 23 1 (1)), (23, x_st (x_goto 7)), (26, x_st (x_push 27 (.int (0)))), (27, x_sti 28 1), (28, x_ldi 29 1), (29, x_lda 30 0), (30, x_gf 33 8 21), (33, x_st (x_icge 96 36)), (36, x_lda 37 0), (37, x_gf 40 8 17), (40, x_ldi 41 1), (41, x_ald 42 0), (42, x_sti 43 2), (43, x_ldi 44 2), (44, x_st (x_push 46 (.int (99)))), (46, x_st (x_icge 90 49)), (49, x_lda 50 0), (50, x_gf 53 8 19), (53, x_ldi 54 2), (54, x_ald 55 0), (55, x_st (x_ifge 78 58)), (58, x_lda 59 0), (59, x_gf 62 8 19), (62, x_ldi 63 2), (63, x_lda 64 0), (64, x_gf 67 8 23), (67, x_ast 68 0 (fun x => x))]
set_option maxRecDepth 100000 in
set_option maxHeartbeats 4000000 in
theorem q_s106_0 (l : Launch) (s0 : State) : ∀ q ∈ q_k106_0, x_Sim (x_K s0) none l q_y106 q_c106 3 none q_w106 q.1 q.2 := by
  unfold q_k106_0
  refine List.forall_mem_cons.2 ⟨s_aload_n (k := 0) (by decide +kernel) rfl, ?_⟩
  refine List.forall_mem_cons.2 ⟨s_iconst (k := 0) (by decide +kernel) (by decide +kernel), ?_⟩
  refine List.forall_mem_cons.2 ⟨s_putfield (C := q_n8) (T := q_T8) (N := 39) (idx := 147) (ref := "ProofDeskModel") q_t8 (by decide +kernel) rfl q_in8 q_ty8 q_nm8 (by decide) (x_up mw_714) rfl rfl (by decide +kernel), ?_⟩
  refine List.forall_mem_cons.2 ⟨s_iconst (k := 0) (by decide +kernel) (by decide +kernel), ?_⟩
  refine List.forall_mem_cons.2 ⟨s_istore_n (k := 1) (by decide +kernel) rfl (by decide), ?_⟩
  refine List.forall_mem_cons.2 ⟨s_iload_n (k := 1) (by decide +kernel) rfl, ?_⟩
  refine List.forall_mem_cons.2 ⟨s_bipush (k := 52) (by decide +kernel) (by decide +kernel), ?_⟩
  refine List.forall_mem_cons.2 ⟨s_icmp_ge (off := 16) (by decide +kernel) (by decide), ?_⟩
  refine List.forall_mem_cons.2 ⟨s_aload_n (k := 0) (by decide +kernel) rfl, ?_⟩
  refine List.forall_mem_cons.2 ⟨s_getfield (C := q_n8) (T := q_T8) (N := 39) (idx := 48) (ref := "ProofDeskModel") (by decide +kernel) rfl q_in8 (by decide) (x_up mw_655) rfl, ?_⟩
  refine List.forall_mem_cons.2 ⟨s_iload_n (k := 1) (by decide +kernel) rfl, ?_⟩
  refine List.forall_mem_cons.2 ⟨s_iconst (k := -1) (by decide +kernel) (by decide +kernel), ?_⟩
  refine List.forall_mem_cons.2 ⟨s_iast (by decide +kernel) rfl, ?_⟩
  refine List.forall_mem_cons.2 ⟨s_iinc (k := 1) (by decide +kernel) (by decide +kernel) (by decide), ?_⟩
  refine List.forall_mem_cons.2 ⟨s_goto (off := -16) (by decide +kernel) (by decide), ?_⟩
  refine List.forall_mem_cons.2 ⟨s_iconst (k := 0) (by decide +kernel) (by decide +kernel), ?_⟩
  refine List.forall_mem_cons.2 ⟨s_istore_n (k := 1) (by decide +kernel) rfl (by decide), ?_⟩
  refine List.forall_mem_cons.2 ⟨s_iload_n (k := 1) (by decide +kernel) rfl, ?_⟩
  refine List.forall_mem_cons.2 ⟨s_aload_n (k := 0) (by decide +kernel) rfl, ?_⟩
  refine List.forall_mem_cons.2 ⟨s_getfield (C := q_n8) (T := q_T8) (N := 39) (idx := 101) (ref := "ProofDeskModel") (by decide +kernel) rfl q_in8 (by decide) (x_up mw_676) rfl, ?_⟩
  refine List.forall_mem_cons.2 ⟨s_icmp_ge (off := 63) (by decide +kernel) (by decide), ?_⟩
  refine List.forall_mem_cons.2 ⟨s_aload_n (k := 0) (by decide +kernel) rfl, ?_⟩
  refine List.forall_mem_cons.2 ⟨s_getfield (C := q_n8) (T := q_T8) (N := 39) (idx := 42) (ref := "ProofDeskModel") (by decide +kernel) rfl q_in8 (by decide) (x_up mw_653) rfl, ?_⟩
  refine List.forall_mem_cons.2 ⟨s_iload_n (k := 1) (by decide +kernel) rfl, ?_⟩
  refine List.forall_mem_cons.2 ⟨s_iald (by decide +kernel) rfl, ?_⟩
  refine List.forall_mem_cons.2 ⟨s_istore_n (k := 2) (by decide +kernel) rfl (by decide), ?_⟩
  refine List.forall_mem_cons.2 ⟨s_iload_n (k := 2) (by decide +kernel) rfl, ?_⟩
  refine List.forall_mem_cons.2 ⟨s_bipush (k := 99) (by decide +kernel) (by decide +kernel), ?_⟩
  refine List.forall_mem_cons.2 ⟨s_icmp_ge (off := 44) (by decide +kernel) (by decide), ?_⟩
  refine List.forall_mem_cons.2 ⟨s_aload_n (k := 0) (by decide +kernel) rfl, ?_⟩
  refine List.forall_mem_cons.2 ⟨s_getfield (C := q_n8) (T := q_T8) (N := 39) (idx := 48) (ref := "ProofDeskModel") (by decide +kernel) rfl q_in8 (by decide) (x_up mw_655) rfl, ?_⟩
  refine List.forall_mem_cons.2 ⟨s_iload_n (k := 2) (by decide +kernel) rfl, ?_⟩
  refine List.forall_mem_cons.2 ⟨s_iald (by decide +kernel) rfl, ?_⟩
  refine List.forall_mem_cons.2 ⟨s_ifge (off := 23) (by decide +kernel) (by decide), ?_⟩
  refine List.forall_mem_cons.2 ⟨s_aload_n (k := 0) (by decide +kernel) rfl, ?_⟩
  refine List.forall_mem_cons.2 ⟨s_getfield (C := q_n8) (T := q_T8) (N := 39) (idx := 48) (ref := "ProofDeskModel") (by decide +kernel) rfl q_in8 (by decide) (x_up mw_655) rfl, ?_⟩
  refine List.forall_mem_cons.2 ⟨s_iload_n (k := 2) (by decide +kernel) rfl, ?_⟩
  refine List.forall_mem_cons.2 ⟨s_aload_n (k := 0) (by decide +kernel) rfl, ?_⟩
  refine List.forall_mem_cons.2 ⟨s_getfield (C := q_n8) (T := q_T8) (N := 39) (idx := 147) (ref := "ProofDeskModel") (by decide +kernel) rfl q_in8 (by decide) (x_up mw_714) rfl, ?_⟩
  refine List.forall_mem_cons.2 ⟨s_iast (by decide +kernel) rfl, ?_⟩
  exact fun _ h => absurd h List.not_mem_nil
def q_k106_1 : List (Nat × xO) := [(68, x_lda 69 0), (69, x_st (x_dup 70)), (70, x_gf 73 8 23), (73, x_st (x_push 74 (.int (1)))), (74, x_st (x_bin 75 (fun a b => a + b))), (75, x_pf 78 8 23 (.int)), (78, x_lda 79 0), (79, x_gf 82 8 17), (82, x_ldi 83 1), (83, x_lda 84 0), (84, x_gf 87 8 19), (87, x_ldi 88 2), (88, x_ald 89 0), (89, x_ast 90 0 (fun x => x)), (90, x_iinc 93 1 (1)), (93, x_st (x_goto 28)), (96, x_rv)]
set_option maxRecDepth 100000 in
set_option maxHeartbeats 4000000 in
theorem q_s106_1 (l : Launch) (s0 : State) : ∀ q ∈ q_k106_1, x_Sim (x_K s0) none l q_y106 q_c106 3 none q_w106 q.1 q.2 := by
  unfold q_k106_1
  refine List.forall_mem_cons.2 ⟨s_aload_n (k := 0) (by decide +kernel) rfl, ?_⟩
  refine List.forall_mem_cons.2 ⟨s_dup (by decide +kernel), ?_⟩
  refine List.forall_mem_cons.2 ⟨s_getfield (C := q_n8) (T := q_T8) (N := 39) (idx := 147) (ref := "ProofDeskModel") (by decide +kernel) rfl q_in8 (by decide) (x_up mw_714) rfl, ?_⟩
  refine List.forall_mem_cons.2 ⟨s_iconst (k := 1) (by decide +kernel) (by decide +kernel), ?_⟩
  refine List.forall_mem_cons.2 ⟨s_iadd (by decide +kernel), ?_⟩
  refine List.forall_mem_cons.2 ⟨s_putfield (C := q_n8) (T := q_T8) (N := 39) (idx := 147) (ref := "ProofDeskModel") q_t8 (by decide +kernel) rfl q_in8 q_ty8 q_nm8 (by decide) (x_up mw_714) rfl rfl (by decide +kernel), ?_⟩
  refine List.forall_mem_cons.2 ⟨s_aload_n (k := 0) (by decide +kernel) rfl, ?_⟩
  refine List.forall_mem_cons.2 ⟨s_getfield (C := q_n8) (T := q_T8) (N := 39) (idx := 42) (ref := "ProofDeskModel") (by decide +kernel) rfl q_in8 (by decide) (x_up mw_653) rfl, ?_⟩
  refine List.forall_mem_cons.2 ⟨s_iload_n (k := 1) (by decide +kernel) rfl, ?_⟩
  refine List.forall_mem_cons.2 ⟨s_aload_n (k := 0) (by decide +kernel) rfl, ?_⟩
  refine List.forall_mem_cons.2 ⟨s_getfield (C := q_n8) (T := q_T8) (N := 39) (idx := 48) (ref := "ProofDeskModel") (by decide +kernel) rfl q_in8 (by decide) (x_up mw_655) rfl, ?_⟩
  refine List.forall_mem_cons.2 ⟨s_iload_n (k := 2) (by decide +kernel) rfl, ?_⟩
  refine List.forall_mem_cons.2 ⟨s_iald (by decide +kernel) rfl, ?_⟩
  refine List.forall_mem_cons.2 ⟨s_iast (by decide +kernel) rfl, ?_⟩
  refine List.forall_mem_cons.2 ⟨s_iinc (k := 1) (by decide +kernel) (by decide +kernel) (by decide), ?_⟩
  refine List.forall_mem_cons.2 ⟨s_goto (off := -65) (by decide +kernel) (by decide), ?_⟩
  refine List.forall_mem_cons.2 ⟨s_return (by decide +kernel) rfl, ?_⟩
  exact fun _ h => absurd h List.not_mem_nil
def q_k106 : List (Nat × xO) := q_k106_0 ++ q_k106_1
theorem q_s106 (l : Launch) (s0 : State) : ∀ q ∈ q_k106, x_Sim (x_K s0) none l q_y106 q_c106 3 none q_w106 q.1 q.2 := by
  intro q hq
  simp only [q_k106, List.mem_append] at hq
  rcases hq with h0 | h1
  · exact q_s106_0 l s0 q h0
  · exact q_s106_1 l s0 q h1
/-- ProofDeskModel.add(ZII)I -/
def q_k107_0 : List (Nat × xO) := [(0, x_lda 1 0), (1, x_gf 4 8 2), (4, x_sti 6 4), (6, x_lda 7 0), (7, x_st (x_dup 8)), (8, x_gf 11 8 2), (11, x_st (x_push 12 (.int (1)))), (12, x_st (x_bin 13 (fun a b => a + b))), (13, x_pf 16 8 2 (.int)), (16, x_st (x_push 17 (.int (0)))), (17, x_sti 19 5), (19, x_ldi 21 5), (21, x_lda 22 0), (22, x_gf 25 8 21), (25, x_st (x_icge 54 28)), (28, x_lda 29 0), (29, x_gf 32 8 3), (32, x_st (x_push 34 (.int (44)))), (34, x_ldi 36 4), (36, x_st (x_bin 37 (fun a b => a * b))), (37, x_ldi 39 5), (39, x_st (x_bin 40 (fun a b => a + b))), (40, x_lda 41 0), (41, x_gf 44 8 17), (44, x_ldi 46 5), (46, x_ald 47 0), (47, x_ast 48 0 (fun x => x)), (48, x_iinc 51 5 (1)), (51, x_st (x_goto 19)), (54, x_st (x_push 55 (.int (0)))), (55, x_sti 57 5), (57, x_ldi 59 5), (59, x_lda 60 0), (60, x_gf 63 8 22), (63, x_st (x_icgt 92 66)), (66, x_lda 67 0), (67, x_gf 70 8 4), (70, x_st (x_push 72 (.int (7)))), (72, x_ldi 74 4), (74, x_st (x_bin 75 (fun a b => a * b)))]
set_option maxRecDepth 100000 in
set_option maxHeartbeats 4000000 in
theorem q_s107_0 (l : Launch) (s0 : State) : ∀ q ∈ q_k107_0, x_Sim (x_K s0) none l q_y107 q_c107 6 (some .int) q_w107 q.1 q.2 := by
  unfold q_k107_0
  refine List.forall_mem_cons.2 ⟨s_aload_n (k := 0) (by decide +kernel) rfl, ?_⟩
  refine List.forall_mem_cons.2 ⟨s_getfield (C := q_n8) (T := q_T8) (N := 39) (idx := 150) (ref := "ProofDeskModel") (by decide +kernel) rfl q_in8 (by decide) (x_up mw_715) rfl, ?_⟩
  refine List.forall_mem_cons.2 ⟨s_istore (by decide +kernel) (by decide), ?_⟩
  refine List.forall_mem_cons.2 ⟨s_aload_n (k := 0) (by decide +kernel) rfl, ?_⟩
  refine List.forall_mem_cons.2 ⟨s_dup (by decide +kernel), ?_⟩
  refine List.forall_mem_cons.2 ⟨s_getfield (C := q_n8) (T := q_T8) (N := 39) (idx := 150) (ref := "ProofDeskModel") (by decide +kernel) rfl q_in8 (by decide) (x_up mw_715) rfl, ?_⟩
  refine List.forall_mem_cons.2 ⟨s_iconst (k := 1) (by decide +kernel) (by decide +kernel), ?_⟩
  refine List.forall_mem_cons.2 ⟨s_iadd (by decide +kernel), ?_⟩
  refine List.forall_mem_cons.2 ⟨s_putfield (C := q_n8) (T := q_T8) (N := 39) (idx := 150) (ref := "ProofDeskModel") q_t8 (by decide +kernel) rfl q_in8 q_ty8 q_nm8 (by decide) (x_up mw_715) rfl rfl (by decide +kernel), ?_⟩
  refine List.forall_mem_cons.2 ⟨s_iconst (k := 0) (by decide +kernel) (by decide +kernel), ?_⟩
  refine List.forall_mem_cons.2 ⟨s_istore (by decide +kernel) (by decide), ?_⟩
  refine List.forall_mem_cons.2 ⟨s_iload (by decide +kernel), ?_⟩
  refine List.forall_mem_cons.2 ⟨s_aload_n (k := 0) (by decide +kernel) rfl, ?_⟩
  refine List.forall_mem_cons.2 ⟨s_getfield (C := q_n8) (T := q_T8) (N := 39) (idx := 101) (ref := "ProofDeskModel") (by decide +kernel) rfl q_in8 (by decide) (x_up mw_676) rfl, ?_⟩
  refine List.forall_mem_cons.2 ⟨s_icmp_ge (off := 29) (by decide +kernel) (by decide), ?_⟩
  refine List.forall_mem_cons.2 ⟨s_aload_n (k := 0) (by decide +kernel) rfl, ?_⟩
  refine List.forall_mem_cons.2 ⟨s_getfield (C := q_n8) (T := q_T8) (N := 39) (idx := 7) (ref := "ProofDeskModel") (by decide +kernel) rfl q_in8 (by decide) (x_up mw_643) rfl, ?_⟩
  refine List.forall_mem_cons.2 ⟨s_bipush (k := 44) (by decide +kernel) (by decide +kernel), ?_⟩
  refine List.forall_mem_cons.2 ⟨s_iload (by decide +kernel), ?_⟩
  refine List.forall_mem_cons.2 ⟨s_imul (by decide +kernel), ?_⟩
  refine List.forall_mem_cons.2 ⟨s_iload (by decide +kernel), ?_⟩
  refine List.forall_mem_cons.2 ⟨s_iadd (by decide +kernel), ?_⟩
  refine List.forall_mem_cons.2 ⟨s_aload_n (k := 0) (by decide +kernel) rfl, ?_⟩
  refine List.forall_mem_cons.2 ⟨s_getfield (C := q_n8) (T := q_T8) (N := 39) (idx := 42) (ref := "ProofDeskModel") (by decide +kernel) rfl q_in8 (by decide) (x_up mw_653) rfl, ?_⟩
  refine List.forall_mem_cons.2 ⟨s_iload (by decide +kernel), ?_⟩
  refine List.forall_mem_cons.2 ⟨s_iald (by decide +kernel) rfl, ?_⟩
  refine List.forall_mem_cons.2 ⟨s_iast (by decide +kernel) rfl, ?_⟩
  refine List.forall_mem_cons.2 ⟨s_iinc (k := 1) (by decide +kernel) (by decide +kernel) (by decide), ?_⟩
  refine List.forall_mem_cons.2 ⟨s_goto (off := -32) (by decide +kernel) (by decide), ?_⟩
  refine List.forall_mem_cons.2 ⟨s_iconst (k := 0) (by decide +kernel) (by decide +kernel), ?_⟩
  refine List.forall_mem_cons.2 ⟨s_istore (by decide +kernel) (by decide), ?_⟩
  refine List.forall_mem_cons.2 ⟨s_iload (by decide +kernel), ?_⟩
  refine List.forall_mem_cons.2 ⟨s_aload_n (k := 0) (by decide +kernel) rfl, ?_⟩
  refine List.forall_mem_cons.2 ⟨s_getfield (C := q_n8) (T := q_T8) (N := 39) (idx := 130) (ref := "ProofDeskModel") (by decide +kernel) rfl q_in8 (by decide) (x_up mw_697) rfl, ?_⟩
  refine List.forall_mem_cons.2 ⟨s_icmp_gt (off := 29) (by decide +kernel) (by decide), ?_⟩
  refine List.forall_mem_cons.2 ⟨s_aload_n (k := 0) (by decide +kernel) rfl, ?_⟩
  refine List.forall_mem_cons.2 ⟨s_getfield (C := q_n8) (T := q_T8) (N := 39) (idx := 13) (ref := "ProofDeskModel") (by decide +kernel) rfl q_in8 (by decide) (x_up mw_644) rfl, ?_⟩
  refine List.forall_mem_cons.2 ⟨s_bipush (k := 7) (by decide +kernel) (by decide +kernel), ?_⟩
  refine List.forall_mem_cons.2 ⟨s_iload (by decide +kernel), ?_⟩
  refine List.forall_mem_cons.2 ⟨s_imul (by decide +kernel), ?_⟩
  exact fun _ h => absurd h List.not_mem_nil
def q_k107_1 : List (Nat × xO) := [(75, x_ldi 77 5), (77, x_st (x_bin 78 (fun a b => a + b))), (78, x_lda 79 0), (79, x_gf 82 8 18), (82, x_ldi 84 5), (84, x_ald 85 0), (85, x_ast 86 0 (fun x => x)), (86, x_iinc 89 5 (1)), (89, x_st (x_goto 57)), (92, x_st (x_push 93 (.int (0)))), (93, x_sti 95 5), (95, x_ldi 97 5), (97, x_lda 98 0), (98, x_gf 101 8 22), (101, x_st (x_icge 130 104)), (104, x_lda 105 0), (105, x_gf 108 8 8), (108, x_st (x_push 110 (.int (7)))), (110, x_ldi 112 4), (112, x_st (x_bin 113 (fun a b => a * b))), (113, x_ldi 115 5), (115, x_st (x_bin 116 (fun a b => a + b))), (116, x_lda 117 0), (117, x_gf 120 8 20), (120, x_ldi 122 5), (122, x_ald 123 1), (123, x_ast 124 1 (fun x => vp_nar .boolean x)), (124, x_iinc 127 5 (1)), (127, x_st (x_goto 95)), (130, x_lda 131 0), (131, x_gf 134 8 5), (134, x_ldi 136 4), (136, x_lda 137 0), (137, x_gf 140 8 22), (140, x_ast 141 0 (fun x => x)), (141, x_lda 142 0), (142, x_gf 145 8 9), (145, x_ldi 147 4), (147, x_ldi 148 1), (148, x_ast 149 1 (fun x => vp_nar .boolean x))]
set_option maxRecDepth 100000 in
set_option maxHeartbeats 4000000 in
theorem q_s107_1 (l : Launch) (s0 : State) : ∀ q ∈ q_k107_1, x_Sim (x_K s0) none l q_y107 q_c107 6 (some .int) q_w107 q.1 q.2 := by
  unfold q_k107_1
  refine List.forall_mem_cons.2 ⟨s_iload (by decide +kernel), ?_⟩
  refine List.forall_mem_cons.2 ⟨s_iadd (by decide +kernel), ?_⟩
  refine List.forall_mem_cons.2 ⟨s_aload_n (k := 0) (by decide +kernel) rfl, ?_⟩
  refine List.forall_mem_cons.2 ⟨s_getfield (C := q_n8) (T := q_T8) (N := 39) (idx := 45) (ref := "ProofDeskModel") (by decide +kernel) rfl q_in8 (by decide) (x_up mw_654) rfl, ?_⟩
  refine List.forall_mem_cons.2 ⟨s_iload (by decide +kernel), ?_⟩
  refine List.forall_mem_cons.2 ⟨s_iald (by decide +kernel) rfl, ?_⟩
  refine List.forall_mem_cons.2 ⟨s_iast (by decide +kernel) rfl, ?_⟩
  refine List.forall_mem_cons.2 ⟨s_iinc (k := 1) (by decide +kernel) (by decide +kernel) (by decide), ?_⟩
  refine List.forall_mem_cons.2 ⟨s_goto (off := -32) (by decide +kernel) (by decide), ?_⟩
  refine List.forall_mem_cons.2 ⟨s_iconst (k := 0) (by decide +kernel) (by decide +kernel), ?_⟩
  refine List.forall_mem_cons.2 ⟨s_istore (by decide +kernel) (by decide), ?_⟩
  refine List.forall_mem_cons.2 ⟨s_iload (by decide +kernel), ?_⟩
  refine List.forall_mem_cons.2 ⟨s_aload_n (k := 0) (by decide +kernel) rfl, ?_⟩
  refine List.forall_mem_cons.2 ⟨s_getfield (C := q_n8) (T := q_T8) (N := 39) (idx := 130) (ref := "ProofDeskModel") (by decide +kernel) rfl q_in8 (by decide) (x_up mw_697) rfl, ?_⟩
  refine List.forall_mem_cons.2 ⟨s_icmp_ge (off := 29) (by decide +kernel) (by decide), ?_⟩
  refine List.forall_mem_cons.2 ⟨s_aload_n (k := 0) (by decide +kernel) rfl, ?_⟩
  refine List.forall_mem_cons.2 ⟨s_getfield (C := q_n8) (T := q_T8) (N := 39) (idx := 25) (ref := "ProofDeskModel") (by decide +kernel) rfl q_in8 (by decide) (x_up mw_648) rfl, ?_⟩
  refine List.forall_mem_cons.2 ⟨s_bipush (k := 7) (by decide +kernel) (by decide +kernel), ?_⟩
  refine List.forall_mem_cons.2 ⟨s_iload (by decide +kernel), ?_⟩
  refine List.forall_mem_cons.2 ⟨s_imul (by decide +kernel), ?_⟩
  refine List.forall_mem_cons.2 ⟨s_iload (by decide +kernel), ?_⟩
  refine List.forall_mem_cons.2 ⟨s_iadd (by decide +kernel), ?_⟩
  refine List.forall_mem_cons.2 ⟨s_aload_n (k := 0) (by decide +kernel) rfl, ?_⟩
  refine List.forall_mem_cons.2 ⟨s_getfield (C := q_n8) (T := q_T8) (N := 39) (idx := 51) (ref := "ProofDeskModel") (by decide +kernel) rfl q_in8 (by decide) (x_up mw_656) rfl, ?_⟩
  refine List.forall_mem_cons.2 ⟨s_iload (by decide +kernel), ?_⟩
  refine List.forall_mem_cons.2 ⟨s_zald (by decide +kernel) rfl, ?_⟩
  refine List.forall_mem_cons.2 ⟨s_zast (by decide +kernel) rfl, ?_⟩
  refine List.forall_mem_cons.2 ⟨s_iinc (k := 1) (by decide +kernel) (by decide +kernel) (by decide), ?_⟩
  refine List.forall_mem_cons.2 ⟨s_goto (off := -32) (by decide +kernel) (by decide), ?_⟩
  refine List.forall_mem_cons.2 ⟨s_aload_n (k := 0) (by decide +kernel) rfl, ?_⟩
  refine List.forall_mem_cons.2 ⟨s_getfield (C := q_n8) (T := q_T8) (N := 39) (idx := 16) (ref := "ProofDeskModel") (by decide +kernel) rfl q_in8 (by decide) (x_up mw_645) rfl, ?_⟩
  refine List.forall_mem_cons.2 ⟨s_iload (by decide +kernel), ?_⟩
  refine List.forall_mem_cons.2 ⟨s_aload_n (k := 0) (by decide +kernel) rfl, ?_⟩
  refine List.forall_mem_cons.2 ⟨s_getfield (C := q_n8) (T := q_T8) (N := 39) (idx := 130) (ref := "ProofDeskModel") (by decide +kernel) rfl q_in8 (by decide) (x_up mw_697) rfl, ?_⟩
  refine List.forall_mem_cons.2 ⟨s_iast (by decide +kernel) rfl, ?_⟩
  refine List.forall_mem_cons.2 ⟨s_aload_n (k := 0) (by decide +kernel) rfl, ?_⟩
  refine List.forall_mem_cons.2 ⟨s_getfield (C := q_n8) (T := q_T8) (N := 39) (idx := 29) (ref := "ProofDeskModel") (by decide +kernel) rfl q_in8 (by decide) (x_up mw_649) rfl, ?_⟩
  refine List.forall_mem_cons.2 ⟨s_iload (by decide +kernel), ?_⟩
  refine List.forall_mem_cons.2 ⟨s_iload_n (k := 1) (by decide +kernel) rfl, ?_⟩
  refine List.forall_mem_cons.2 ⟨s_zast (by decide +kernel) rfl, ?_⟩
  exact fun _ h => absurd h List.not_mem_nil
def q_k107_2 : List (Nat × xO) := [(149, x_lda 150 0), (150, x_gf 153 8 6), (153, x_ldi 155 4), (155, x_ldi 156 2), (156, x_ast 157 0 (fun x => x)), (157, x_lda 158 0), (158, x_gf 161 8 7), (161, x_ldi 163 4), (163, x_ldi 164 1), (164, x_st (x_ifeq 174 167)), (167, x_st (x_push 168 (.int (1)))), (168, x_ldi 170 4), (170, x_st (x_bin 171 (fun a b => a <<< (b &&& 31)))), (171, x_st (x_goto 175)), (174, x_ldi 175 3), (175, x_ast 176 0 (fun x => x)), (176, x_ldi 178 4), (178, x_ri (.int))]
set_option maxRecDepth 100000 in
set_option maxHeartbeats 4000000 in
theorem q_s107_2 (l : Launch) (s0 : State) : ∀ q ∈ q_k107_2, x_Sim (x_K s0) none l q_y107 q_c107 6 (some .int) q_w107 q.1 q.2 := by
  unfold q_k107_2
  refine List.forall_mem_cons.2 ⟨s_aload_n (k := 0) (by decide +kernel) rfl, ?_⟩
  refine List.forall_mem_cons.2 ⟨s_getfield (C := q_n8) (T := q_T8) (N := 39) (idx := 19) (ref := "ProofDeskModel") (by decide +kernel) rfl q_in8 (by decide) (x_up mw_646) rfl, ?_⟩
  refine List.forall_mem_cons.2 ⟨s_iload (by decide +kernel), ?_⟩
  refine List.forall_mem_cons.2 ⟨s_iload_n (k := 2) (by decide +kernel) rfl, ?_⟩
  refine List.forall_mem_cons.2 ⟨s_iast (by decide +kernel) rfl, ?_⟩
  refine List.forall_mem_cons.2 ⟨s_aload_n (k := 0) (by decide +kernel) rfl, ?_⟩
  refine List.forall_mem_cons.2 ⟨s_getfield (C := q_n8) (T := q_T8) (N := 39) (idx := 22) (ref := "ProofDeskModel") (by decide +kernel) rfl q_in8 (by decide) (x_up mw_647) rfl, ?_⟩
  refine List.forall_mem_cons.2 ⟨s_iload (by decide +kernel), ?_⟩
  refine List.forall_mem_cons.2 ⟨s_iload_n (k := 1) (by decide +kernel) rfl, ?_⟩
  refine List.forall_mem_cons.2 ⟨s_ifeq (off := 10) (by decide +kernel) (by decide), ?_⟩
  refine List.forall_mem_cons.2 ⟨s_iconst (k := 1) (by decide +kernel) (by decide +kernel), ?_⟩
  refine List.forall_mem_cons.2 ⟨s_iload (by decide +kernel), ?_⟩
  refine List.forall_mem_cons.2 ⟨s_ishl (by decide +kernel), ?_⟩
  refine List.forall_mem_cons.2 ⟨s_goto (off := 4) (by decide +kernel) (by decide), ?_⟩
  refine List.forall_mem_cons.2 ⟨s_iload_n (k := 3) (by decide +kernel) rfl, ?_⟩
  refine List.forall_mem_cons.2 ⟨s_iast (by decide +kernel) rfl, ?_⟩
  refine List.forall_mem_cons.2 ⟨s_iload (by decide +kernel), ?_⟩
  refine List.forall_mem_cons.2 ⟨s_ireturn (ty := .int) (by decide +kernel) rfl, ?_⟩
  exact fun _ h => absurd h List.not_mem_nil
def q_k107 : List (Nat × xO) := q_k107_0 ++ q_k107_1 ++ q_k107_2
theorem q_s107 (l : Launch) (s0 : State) : ∀ q ∈ q_k107, x_Sim (x_K s0) none l q_y107 q_c107 6 (some .int) q_w107 q.1 q.2 := by
  intro q hq
  simp only [q_k107, List.mem_append] at hq
  rcases hq with (h0 | h1) | h2
  · exact q_s107_0 l s0 q h0
  · exact q_s107_1 l s0 q h1
  · exact q_s107_2 l s0 q h2
/-- ProofDeskModel.given()I -/
def q_k108_0 : List (Nat × xO) := [(0, x_lda 1 0), (1, x_st (x_push 2 (.int (0)))), (2, x_pf 5 8 0 (.int)), (5, x_lda 6 0), (6, x_st (x_push 7 (.int (0)))), (7, x_pf 10 8 1 (.int)), (10, x_lda 11 0), (11, x_cv 14 105 1 8), (14, x_sti 15 1), (15, x_lda 16 0), (16, x_st (x_push 17 (.int (0)))), (17, x_pf 20 8 13 (.int)), (20, x_ldi 21 1), (21, x_st (x_ifge 31 24)), (24, x_lda 25 0), (25, x_st (x_push 26 (.int (1)))), (26, x_ldi 27 1), (27, x_cv 30 93 3 8), (30, x_ri (.int)), (31, x_lda 32 0), (32, x_gf 35 8 2), (35, x_st (x_push 37 (.int (30)))), (37, x_st (x_icne 48 40)), (40, x_lda 41 0), (41, x_st (x_push 42 (.int (2)))), (42, x_st (x_push 44 (.int (-3)))), (44, x_cv 47 93 3 8), (47, x_ri (.int)), (48, x_st (x_push 49 (.int (0)))), (49, x_sti 50 2), (50, x_ldi 51 2), (51, x_st (x_push 53 (.int (26)))), (53, x_st (x_icge 74 56)), (56, x_lda 57 0), (57, x_gf 60 8 10), (60, x_ldi 61 2), (61, x_lda 62 0), (62, x_gf 65 8 11), (65, x_ldi 66 2), (66, x_ald 67 0)]
set_option maxRecDepth 100000 in
set_option maxHeartbeats 4000000 in
theorem q_s108_0 (l : Launch) (s0 : State) : ∀ q ∈ q_k108_0, x_Sim (x_K s0) none l q_y108 q_c108 3 (some .int) q_w108 q.1 q.2 := by
  unfold q_k108_0
  refine List.forall_mem_cons.2 ⟨s_aload_n (k := 0) (by decide +kernel) rfl, ?_⟩
  refine List.forall_mem_cons.2 ⟨s_iconst (k := 0) (by decide +kernel) (by decide +kernel), ?_⟩
  refine List.forall_mem_cons.2 ⟨s_putfield (C := q_n8) (T := q_T8) (N := 39) (idx := 84) (ref := "ProofDeskModel") q_t8 (by decide +kernel) rfl q_in8 q_ty8 q_nm8 (by decide) (x_up mw_667) rfl rfl (by decide +kernel), ?_⟩
  refine List.forall_mem_cons.2 ⟨s_aload_n (k := 0) (by decide +kernel) rfl, ?_⟩
  refine List.forall_mem_cons.2 ⟨s_iconst (k := 0) (by decide +kernel) (by decide +kernel), ?_⟩
  refine List.forall_mem_cons.2 ⟨s_putfield (C := q_n8) (T := q_T8) (N := 39) (idx := 88) (ref := "ProofDeskModel") q_t8 (by decide +kernel) rfl q_in8 q_ty8 q_nm8 (by decide) (x_up mw_668) rfl rfl (by decide +kernel), ?_⟩
  refine List.forall_mem_cons.2 ⟨s_aload_n (k := 0) (by decide +kernel) rfl, ?_⟩
  refine List.forall_mem_cons.2 ⟨s_invokevirtual (idx := 153) (M := 105) (k := 0) (ci := 8) (C := q_n8) (T := q_T8) (N := 39) (ym := q_y105) (wm := q_w105) (by decide +kernel) rfl rfl rfl (x_gdV mw_717 mw_718 mw_719 mw_675 mw_716) rfl (by decide +kernel) (by decide), ?_⟩
  refine List.forall_mem_cons.2 ⟨s_istore_n (k := 1) (by decide +kernel) rfl (by decide), ?_⟩
  refine List.forall_mem_cons.2 ⟨s_aload_n (k := 0) (by decide +kernel) rfl, ?_⟩
  refine List.forall_mem_cons.2 ⟨s_iconst (k := 0) (by decide +kernel) (by decide +kernel), ?_⟩
  refine List.forall_mem_cons.2 ⟨s_putfield (C := q_n8) (T := q_T8) (N := 39) (idx := 91) (ref := "ProofDeskModel") q_t8 (by decide +kernel) rfl q_in8 q_ty8 q_nm8 (by decide) (x_up mw_669) rfl rfl (by decide +kernel), ?_⟩
  refine List.forall_mem_cons.2 ⟨s_iload_n (k := 1) (by decide +kernel) rfl, ?_⟩
  refine List.forall_mem_cons.2 ⟨s_ifge (off := 10) (by decide +kernel) (by decide), ?_⟩
  refine List.forall_mem_cons.2 ⟨s_aload_n (k := 0) (by decide +kernel) rfl, ?_⟩
  refine List.forall_mem_cons.2 ⟨s_iconst (k := 1) (by decide +kernel) (by decide +kernel), ?_⟩
  refine List.forall_mem_cons.2 ⟨s_iload_n (k := 1) (by decide +kernel) rfl, ?_⟩
  refine List.forall_mem_cons.2 ⟨s_invokevirtual (idx := 157) (M := 93) (k := 2) (ci := 8) (C := q_n8) (T := q_T8) (N := 39) (ym := q_y93) (wm := q_w93) (by decide +kernel) rfl rfl rfl (x_gdV mw_721 mw_722 mw_723 mw_675 mw_720) rfl (by decide +kernel) (by decide), ?_⟩
  refine List.forall_mem_cons.2 ⟨s_ireturn (ty := .int) (by decide +kernel) rfl, ?_⟩
  refine List.forall_mem_cons.2 ⟨s_aload_n (k := 0) (by decide +kernel) rfl, ?_⟩
  refine List.forall_mem_cons.2 ⟨s_getfield (C := q_n8) (T := q_T8) (N := 39) (idx := 150) (ref := "ProofDeskModel") (by decide +kernel) rfl q_in8 (by decide) (x_up mw_715) rfl, ?_⟩
  refine List.forall_mem_cons.2 ⟨s_bipush (k := 30) (by decide +kernel) (by decide +kernel), ?_⟩
  refine List.forall_mem_cons.2 ⟨s_icmp_ne (off := 11) (by decide +kernel) (by decide), ?_⟩
  refine List.forall_mem_cons.2 ⟨s_aload_n (k := 0) (by decide +kernel) rfl, ?_⟩
  refine List.forall_mem_cons.2 ⟨s_iconst (k := 2) (by decide +kernel) (by decide +kernel), ?_⟩
  refine List.forall_mem_cons.2 ⟨s_bipush (k := -3) (by decide +kernel) (by decide +kernel), ?_⟩
  refine List.forall_mem_cons.2 ⟨s_invokevirtual (idx := 157) (M := 93) (k := 2) (ci := 8) (C := q_n8) (T := q_T8) (N := 39) (ym := q_y93) (wm := q_w93) (by decide +kernel) rfl rfl rfl (x_gdV mw_721 mw_722 mw_723 mw_675 mw_720) rfl (by decide +kernel) (by decide), ?_⟩
  refine List.forall_mem_cons.2 ⟨s_ireturn (ty := .int) (by decide +kernel) rfl, ?_⟩
  refine List.forall_mem_cons.2 ⟨s_iconst (k := 0) (by decide +kernel) (by decide +kernel), ?_⟩
  refine List.forall_mem_cons.2 ⟨s_istore_n (k := 2) (by decide +kernel) rfl (by decide), ?_⟩
  refine List.forall_mem_cons.2 ⟨s_iload_n (k := 2) (by decide +kernel) rfl, ?_⟩
  refine List.forall_mem_cons.2 ⟨s_bipush (k := 26) (by decide +kernel) (by decide +kernel), ?_⟩
  refine List.forall_mem_cons.2 ⟨s_icmp_ge (off := 21) (by decide +kernel) (by decide), ?_⟩
  refine List.forall_mem_cons.2 ⟨s_aload_n (k := 0) (by decide +kernel) rfl, ?_⟩
  refine List.forall_mem_cons.2 ⟨s_getfield (C := q_n8) (T := q_T8) (N := 39) (idx := 32) (ref := "ProofDeskModel") (by decide +kernel) rfl q_in8 (by decide) (x_up mw_650) rfl, ?_⟩
  refine List.forall_mem_cons.2 ⟨s_iload_n (k := 2) (by decide +kernel) rfl, ?_⟩
  refine List.forall_mem_cons.2 ⟨s_aload_n (k := 0) (by decide +kernel) rfl, ?_⟩
  refine List.forall_mem_cons.2 ⟨s_getfield (C := q_n8) (T := q_T8) (N := 39) (idx := 35) (ref := "ProofDeskModel") (by decide +kernel) rfl q_in8 (by decide) (x_up mw_651) rfl, ?_⟩
  refine List.forall_mem_cons.2 ⟨s_iload_n (k := 2) (by decide +kernel) rfl, ?_⟩
  refine List.forall_mem_cons.2 ⟨s_iald (by decide +kernel) rfl, ?_⟩
  exact fun _ h => absurd h List.not_mem_nil
def q_k108_1 : List (Nat × xO) := [(67, x_ast 68 0 (fun x => x)), (68, x_iinc 71 2 (1)), (71, x_st (x_goto 50)), (74, x_lda 75 0), (75, x_cv 78 106 1 8), (78, x_lda 79 0), (79, x_st (x_push 80 (.int (1)))), (80, x_st (x_push 81 (.int (0)))), (81, x_st (x_push 82 (.int (0)))), (82, x_cv 85 107 4 8), (85, x_ri (.int))]
set_option maxRecDepth 100000 in
set_option maxHeartbeats 4000000 in
theorem q_s108_1 (l : Launch) (s0 : State) : ∀ q ∈ q_k108_1, x_Sim (x_K s0) none l q_y108 q_c108 3 (some .int) q_w108 q.1 q.2 := by
  unfold q_k108_1
  refine List.forall_mem_cons.2 ⟨s_iast (by decide +kernel) rfl, ?_⟩
  refine List.forall_mem_cons.2 ⟨s_iinc (k := 1) (by decide +kernel) (by decide +kernel) (by decide), ?_⟩
  refine List.forall_mem_cons.2 ⟨s_goto (off := -21) (by decide +kernel) (by decide), ?_⟩
  refine List.forall_mem_cons.2 ⟨s_aload_n (k := 0) (by decide +kernel) rfl, ?_⟩
  refine List.forall_mem_cons.2 ⟨s_invokevirtual (idx := 161) (M := 106) (k := 0) (ci := 8) (C := q_n8) (T := q_T8) (N := 39) (ym := q_y106) (wm := q_w106) (by decide +kernel) rfl rfl rfl (x_gdV mw_725 mw_726 mw_727 mw_675 mw_724) rfl (by decide +kernel) (by decide), ?_⟩
  refine List.forall_mem_cons.2 ⟨s_aload_n (k := 0) (by decide +kernel) rfl, ?_⟩
  refine List.forall_mem_cons.2 ⟨s_iconst (k := 1) (by decide +kernel) (by decide +kernel), ?_⟩
  refine List.forall_mem_cons.2 ⟨s_iconst (k := 0) (by decide +kernel) (by decide +kernel), ?_⟩
  refine List.forall_mem_cons.2 ⟨s_iconst (k := 0) (by decide +kernel) (by decide +kernel), ?_⟩
  refine List.forall_mem_cons.2 ⟨s_invokevirtual (idx := 164) (M := 107) (k := 3) (ci := 8) (C := q_n8) (T := q_T8) (N := 39) (ym := q_y107) (wm := q_w107) (by decide +kernel) rfl rfl rfl (x_gdV mw_729 mw_730 mw_731 mw_675 mw_728) rfl (by decide +kernel) (by decide), ?_⟩
  refine List.forall_mem_cons.2 ⟨s_ireturn (ty := .int) (by decide +kernel) rfl, ?_⟩
  exact fun _ h => absurd h List.not_mem_nil
def q_k108 : List (Nat × xO) := q_k108_0 ++ q_k108_1
theorem q_s108 (l : Launch) (s0 : State) : ∀ q ∈ q_k108, x_Sim (x_K s0) none l q_y108 q_c108 3 (some .int) q_w108 q.1 q.2 := by
  intro q hq
  simp only [q_k108, List.mem_append] at hq
  rcases hq with h0 | h1
  · exact q_s108_0 l s0 q h0
  · exact q_s108_1 l s0 q h1
/-- ProofDeskModel.behind(I)I -/
def q_k109_0 : List (Nat × xO) := [(0, x_st (x_push 1 (.int (1)))), (1, x_sti 2 2), (2, x_ldi 3 1), (3, x_sti 4 3), (4, x_ldi 5 2), (5, x_st (x_ifle 28 8)), (8, x_ldi 9 2), (9, x_lda 10 0), (10, x_gf 13 8 29), (13, x_ldi 14 3), (14, x_ald 15 0), (15, x_cl_ 18 101 1), (18, x_st (x_bin 19 (fun a b => a + b))), (19, x_st (x_push 20 (.int (1)))), (20, x_st (x_bin 21 (fun a b => a - b))), (21, x_sti 22 2), (22, x_iinc 25 3 (1)), (25, x_st (x_goto 4)), (28, x_ldi 29 3), (29, x_ri (.int))]
set_option maxRecDepth 100000 in
set_option maxHeartbeats 4000000 in
theorem q_s109_0 (l : Launch) (s0 : State) : ∀ q ∈ q_k109_0, x_Sim (x_K s0) none l q_y109 q_c109 4 (some .int) q_w109 q.1 q.2 := by
  unfold q_k109_0
  refine List.forall_mem_cons.2 ⟨s_iconst (k := 1) (by decide +kernel) (by decide +kernel), ?_⟩
  refine List.forall_mem_cons.2 ⟨s_istore_n (k := 2) (by decide +kernel) rfl (by decide), ?_⟩
  refine List.forall_mem_cons.2 ⟨s_iload_n (k := 1) (by decide +kernel) rfl, ?_⟩
  refine List.forall_mem_cons.2 ⟨s_istore_n (k := 3) (by decide +kernel) rfl (by decide), ?_⟩
  refine List.forall_mem_cons.2 ⟨s_iload_n (k := 2) (by decide +kernel) rfl, ?_⟩
  refine List.forall_mem_cons.2 ⟨s_ifle (off := 23) (by decide +kernel) (by decide), ?_⟩
  refine List.forall_mem_cons.2 ⟨s_iload_n (k := 2) (by decide +kernel) rfl, ?_⟩
  refine List.forall_mem_cons.2 ⟨s_aload_n (k := 0) (by decide +kernel) rfl, ?_⟩
  refine List.forall_mem_cons.2 ⟨s_getfield (C := q_n8) (T := q_T8) (N := 39) (idx := 63) (ref := "ProofDeskModel") (by decide +kernel) rfl q_in8 (by decide) (x_up mw_660) rfl, ?_⟩
  refine List.forall_mem_cons.2 ⟨s_iload_n (k := 3) (by decide +kernel) rfl, ?_⟩
  refine List.forall_mem_cons.2 ⟨s_iald (by decide +kernel) rfl, ?_⟩
  refine List.forall_mem_cons.2 ⟨s_invokestatic (idx := 122) (M := 101) (ym := q_y101) (wm := q_w101) (by decide +kernel) rfl rfl (x_gdS mw_691 mw_692 mw_675 mw_690) rfl (by decide +kernel) (by decide), ?_⟩
  refine List.forall_mem_cons.2 ⟨s_iadd (by decide +kernel), ?_⟩
  refine List.forall_mem_cons.2 ⟨s_iconst (k := 1) (by decide +kernel) (by decide +kernel), ?_⟩
  refine List.forall_mem_cons.2 ⟨s_isub (by decide +kernel), ?_⟩
  refine List.forall_mem_cons.2 ⟨s_istore_n (k := 2) (by decide +kernel) rfl (by decide), ?_⟩
  refine List.forall_mem_cons.2 ⟨s_iinc (k := 1) (by decide +kernel) (by decide +kernel) (by decide), ?_⟩
  refine List.forall_mem_cons.2 ⟨s_goto (off := -21) (by decide +kernel) (by decide), ?_⟩
  refine List.forall_mem_cons.2 ⟨s_iload_n (k := 3) (by decide +kernel) rfl, ?_⟩
  refine List.forall_mem_cons.2 ⟨s_ireturn (ty := .int) (by decide +kernel) rfl, ?_⟩
  exact fun _ h => absurd h List.not_mem_nil
def q_k109 : List (Nat × xO) := q_k109_0
theorem q_s109 (l : Launch) (s0 : State) : ∀ q ∈ q_k109, x_Sim (x_K s0) none l q_y109 q_c109 4 (some .int) q_w109 q.1 q.2 := q_s109_0 l s0
/-- ProofDeskModel.lay(III)V -/
def q_k110_0 : List (Nat × xO) := [(0, x_lda 1 0), (1, x_gf 4 8 4), (4, x_st (x_push 6 (.int (7)))), (6, x_ldi 7 1), (7, x_st (x_bin 8 (fun a b => a * b))), (8, x_lda 9 0), (9, x_gf 12 8 5), (12, x_ldi 13 1), (13, x_ald 14 0), (14, x_st (x_bin 15 (fun a b => a + b))), (15, x_ald 16 0), (16, x_sti 18 4), (18, x_st (x_push 19 (.int (0)))), (19, x_sti 21 5), (21, x_ldi 23 5), (23, x_ldi 25 4), (25, x_st (x_icge 73 28)), (28, x_lda 29 0), (29, x_gf 32 8 3), (32, x_st (x_push 34 (.int (44)))), (34, x_ldi 35 1), (35, x_st (x_bin 36 (fun a b => a * b))), (36, x_ldi 38 5), (38, x_st (x_bin 39 (fun a b => a + b))), (39, x_ald 40 0), (40, x_sti 42 6), (42, x_lda 43 0), (43, x_gf 46 8 29), (46, x_ldi 47 2), (47, x_ldi 49 5), (49, x_st (x_bin 50 (fun a b => a + b))), (50, x_ldi 52 6), (52, x_st (x_push 54 (.int (99)))), (54, x_st (x_icge 64 57)), (57, x_ldi 59 6), (59, x_ldi 60 3), (60, x_st (x_bin 61 (fun a b => a + b))), (61, x_st (x_goto 66)), (64, x_ldi 66 6), (66, x_ast 67 0 (fun x => x))]
set_option maxRecDepth 100000 in
set_option maxHeartbeats 4000000 in
theorem q_s110_0 (l : Launch) (s0 : State) : ∀ q ∈ q_k110_0, x_Sim (x_K s0) none l q_y110 q_c110 7 none q_w110 q.1 q.2 := by
  unfold q_k110_0
  refine List.forall_mem_cons.2 ⟨s_aload_n (k := 0) (by decide +kernel) rfl, ?_⟩
  refine List.forall_mem_cons.2 ⟨s_getfield (C := q_n8) (T := q_T8) (N := 39) (idx := 13) (ref := "ProofDeskModel") (by decide +kernel) rfl q_in8 (by decide) (x_up mw_644) rfl, ?_⟩
  refine List.forall_mem_cons.2 ⟨s_bipush (k := 7) (by decide +kernel) (by decide +kernel), ?_⟩
  refine List.forall_mem_cons.2 ⟨s_iload_n (k := 1) (by decide +kernel) rfl, ?_⟩
  refine List.forall_mem_cons.2 ⟨s_imul (by decide +kernel), ?_⟩
  refine List.forall_mem_cons.2 ⟨s_aload_n (k := 0) (by decide +kernel) rfl, ?_⟩
  refine List.forall_mem_cons.2 ⟨s_getfield (C := q_n8) (T := q_T8) (N := 39) (idx := 16) (ref := "ProofDeskModel") (by decide +kernel) rfl q_in8 (by decide) (x_up mw_645) rfl, ?_⟩
  refine List.forall_mem_cons.2 ⟨s_iload_n (k := 1) (by decide +kernel) rfl, ?_⟩
  refine List.forall_mem_cons.2 ⟨s_iald (by decide +kernel) rfl, ?_⟩
  refine List.forall_mem_cons.2 ⟨s_iadd (by decide +kernel), ?_⟩
  refine List.forall_mem_cons.2 ⟨s_iald (by decide +kernel) rfl, ?_⟩
  refine List.forall_mem_cons.2 ⟨s_istore (by decide +kernel) (by decide), ?_⟩
  refine List.forall_mem_cons.2 ⟨s_iconst (k := 0) (by decide +kernel) (by decide +kernel), ?_⟩
  refine List.forall_mem_cons.2 ⟨s_istore (by decide +kernel) (by decide), ?_⟩
  refine List.forall_mem_cons.2 ⟨s_iload (by decide +kernel), ?_⟩
  refine List.forall_mem_cons.2 ⟨s_iload (by decide +kernel), ?_⟩
  refine List.forall_mem_cons.2 ⟨s_icmp_ge (off := 48) (by decide +kernel) (by decide), ?_⟩
  refine List.forall_mem_cons.2 ⟨s_aload_n (k := 0) (by decide +kernel) rfl, ?_⟩
  refine List.forall_mem_cons.2 ⟨s_getfield (C := q_n8) (T := q_T8) (N := 39) (idx := 7) (ref := "ProofDeskModel") (by decide +kernel) rfl q_in8 (by decide) (x_up mw_643) rfl, ?_⟩
  refine List.forall_mem_cons.2 ⟨s_bipush (k := 44) (by decide +kernel) (by decide +kernel), ?_⟩
  refine List.forall_mem_cons.2 ⟨s_iload_n (k := 1) (by decide +kernel) rfl, ?_⟩
  refine List.forall_mem_cons.2 ⟨s_imul (by decide +kernel), ?_⟩
  refine List.forall_mem_cons.2 ⟨s_iload (by decide +kernel), ?_⟩
  refine List.forall_mem_cons.2 ⟨s_iadd (by decide +kernel), ?_⟩
  refine List.forall_mem_cons.2 ⟨s_iald (by decide +kernel) rfl, ?_⟩
  refine List.forall_mem_cons.2 ⟨s_istore (by decide +kernel) (by decide), ?_⟩
  refine List.forall_mem_cons.2 ⟨s_aload_n (k := 0) (by decide +kernel) rfl, ?_⟩
  refine List.forall_mem_cons.2 ⟨s_getfield (C := q_n8) (T := q_T8) (N := 39) (idx := 63) (ref := "ProofDeskModel") (by decide +kernel) rfl q_in8 (by decide) (x_up mw_660) rfl, ?_⟩
  refine List.forall_mem_cons.2 ⟨s_iload_n (k := 2) (by decide +kernel) rfl, ?_⟩
  refine List.forall_mem_cons.2 ⟨s_iload (by decide +kernel), ?_⟩
  refine List.forall_mem_cons.2 ⟨s_iadd (by decide +kernel), ?_⟩
  refine List.forall_mem_cons.2 ⟨s_iload (by decide +kernel), ?_⟩
  refine List.forall_mem_cons.2 ⟨s_bipush (k := 99) (by decide +kernel) (by decide +kernel), ?_⟩
  refine List.forall_mem_cons.2 ⟨s_icmp_ge (off := 10) (by decide +kernel) (by decide), ?_⟩
  refine List.forall_mem_cons.2 ⟨s_iload (by decide +kernel), ?_⟩
  refine List.forall_mem_cons.2 ⟨s_iload_n (k := 3) (by decide +kernel) rfl, ?_⟩
  refine List.forall_mem_cons.2 ⟨s_iadd (by decide +kernel), ?_⟩
  refine List.forall_mem_cons.2 ⟨s_goto (off := 5) (by decide +kernel) (by decide), ?_⟩
  refine List.forall_mem_cons.2 ⟨s_iload (by decide +kernel), ?_⟩
  refine List.forall_mem_cons.2 ⟨s_iast (by decide +kernel) rfl, ?_⟩
  exact fun _ h => absurd h List.not_mem_nil
def q_k110_1 : List (Nat × xO) := [(67, x_iinc 70 5 (1)), (70, x_st (x_goto 21)), (73, x_rv)]
set_option maxRecDepth 100000 in
set_option maxHeartbeats 4000000 in
theorem q_s110_1 (l : Launch) (s0 : State) : ∀ q ∈ q_k110_1, x_Sim (x_K s0) none l q_y110 q_c110 7 none q_w110 q.1 q.2 := by
  unfold q_k110_1
  refine List.forall_mem_cons.2 ⟨s_iinc (k := 1) (by decide +kernel) (by decide +kernel) (by decide), ?_⟩
  refine List.forall_mem_cons.2 ⟨s_goto (off := -49) (by decide +kernel) (by decide), ?_⟩
  refine List.forall_mem_cons.2 ⟨s_return (by decide +kernel) rfl, ?_⟩
  exact fun _ h => absurd h List.not_mem_nil
def q_k110 : List (Nat × xO) := q_k110_0 ++ q_k110_1
theorem q_s110 (l : Launch) (s0 : State) : ∀ q ∈ q_k110, x_Sim (x_K s0) none l q_y110 q_c110 7 none q_w110 q.1 q.2 := by
  intro q hq
  simp only [q_k110, List.mem_append] at hq
  rcases hq with h0 | h1
  · exact q_s110_0 l s0 q h0
  · exact q_s110_1 l s0 q h1
