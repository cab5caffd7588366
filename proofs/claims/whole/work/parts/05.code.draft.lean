/-- ProofDesk$Draft.<init>()V -/
def q_k26_0 : List (Nat × xO) := [(0, x_lda 1 0), (1, x_st (x_oi 4)), (4, x_lda 5 0), (5, x_st (x_push 7 (.int (60)))), (7, x_na 9 2), (9, x_pf 12 3 0 (.array .char)), (12, x_rv)]
set_option maxRecDepth 100000 in
set_option maxHeartbeats 4000000 in
theorem q_s26_0 (l : Launch) (s0 : State) : ∀ q ∈ q_k26_0, x_Sim (x_K s0) none l q_y26 q_c26 1 none q_w26 q.1 q.2 := by
  unfold q_k26_0
  refine List.forall_mem_cons.2 ⟨s_aload_n (k := 0) (by decide +kernel) rfl, ?_⟩
  refine List.forall_mem_cons.2 ⟨s_objInit (idx := 3) (by decide +kernel) (x_up mw_236) (x_up mw_100) (x_up mw_obj), ?_⟩
  refine List.forall_mem_cons.2 ⟨s_aload_n (k := 0) (by decide +kernel) rfl, ?_⟩
  refine List.forall_mem_cons.2 ⟨s_bipush (k := 60) (by decide +kernel) (by decide +kernel), ?_⟩
  refine List.forall_mem_cons.2 ⟨s_newarray (at0 := .char) (ty := .char) (by decide +kernel) rfl (x_up mw_237) rfl (by decide) rfl (fun _ _ h => h), ?_⟩
  refine List.forall_mem_cons.2 ⟨s_putfieldF (C := q_n3) (T := q_T3) (N := 3) (idx := 9) q_t3 (by decide +kernel) rfl q_in3 q_ty3 q_nm3 (by decide) (x_up mw_238) rfl rfl (by decide +kernel) rfl, ?_⟩
  refine List.forall_mem_cons.2 ⟨s_return (by decide +kernel) rfl, ?_⟩
  exact fun _ h => absurd h List.not_mem_nil
def q_k26 : List (Nat × xO) := q_k26_0
theorem q_s26 (l : Launch) (s0 : State) : ∀ q ∈ q_k26, x_Sim (x_K s0) none l q_y26 q_c26 1 none q_w26 q.1 q.2 := q_s26_0 l s0
/-- ProofDesk$Draft.append(C)Z -/
def q_k27_0 : List (Nat × xO) := [(0, x_lda 1 0), (1, x_gf 4 3 2), (4, x_st (x_push 6 (.int (60)))), (6, x_st (x_icge 21 9)), (9, x_ldi 10 1), (10, x_st (x_push 12 (.int (32)))), (12, x_st (x_iclt 21 15)), (15, x_ldi 16 1), (16, x_st (x_push 18 (.int (126)))), (18, x_st (x_icle 23 21)), (21, x_st (x_push 22 (.int (0)))), (22, x_ri (.boolean)), (23, x_lda 24 0), (24, x_gf 27 3 0), (27, x_lda 28 0), (28, x_gf 31 3 2), (31, x_ldi 32 1), (32, x_ast 33 2 (fun x => vp_nar .char x)), (33, x_lda 34 0), (34, x_st (x_dup 35)), (35, x_gf 38 3 2), (38, x_st (x_push 39 (.int (1)))), (39, x_st (x_bin 40 (fun a b => a + b))), (40, x_pf 43 3 2 (.int)), (43, x_st (x_push 44 (.int (1)))), (44, x_ri (.boolean))]
set_option maxRecDepth 100000 in
set_option maxHeartbeats 4000000 in
theorem q_s27_0 (l : Launch) (s0 : State) : ∀ q ∈ q_k27_0, x_Sim (x_K s0) none l q_y27 q_c27 2 (some .boolean) q_w27 q.1 q.2 := by
  unfold q_k27_0
  refine List.forall_mem_cons.2 ⟨s_aload_n (k := 0) (by decide +kernel) rfl, ?_⟩
  refine List.forall_mem_cons.2 ⟨s_getfield (C := q_n3) (T := q_T3) (N := 3) (idx := 15) (ref := "ProofDesk$Draft") (by decide +kernel) rfl q_in3 (by decide) (x_up mw_239) rfl, ?_⟩
  refine List.forall_mem_cons.2 ⟨s_bipush (k := 60) (by decide +kernel) (by decide +kernel), ?_⟩
  refine List.forall_mem_cons.2 ⟨s_icmp_ge (off := 15) (by decide +kernel) (by decide), ?_⟩
  refine List.forall_mem_cons.2 ⟨s_iload_n (k := 1) (by decide +kernel) rfl, ?_⟩
  refine List.forall_mem_cons.2 ⟨s_bipush (k := 32) (by decide +kernel) (by decide +kernel), ?_⟩
  refine List.forall_mem_cons.2 ⟨s_icmp_lt (off := 9) (by decide +kernel) (by decide), ?_⟩
  refine List.forall_mem_cons.2 ⟨s_iload_n (k := 1) (by decide +kernel) rfl, ?_⟩
  refine List.forall_mem_cons.2 ⟨s_bipush (k := 126) (by decide +kernel) (by decide +kernel), ?_⟩
  refine List.forall_mem_cons.2 ⟨s_icmp_le (off := 5) (by decide +kernel) (by decide), ?_⟩
  refine List.forall_mem_cons.2 ⟨s_iconst (k := 0) (by decide +kernel) (by decide +kernel), ?_⟩
  refine List.forall_mem_cons.2 ⟨s_ireturn (ty := .boolean) (by decide +kernel) rfl, ?_⟩
  refine List.forall_mem_cons.2 ⟨s_aload_n (k := 0) (by decide +kernel) rfl, ?_⟩
  refine List.forall_mem_cons.2 ⟨s_getfield (C := q_n3) (T := q_T3) (N := 3) (idx := 9) (ref := "ProofDesk$Draft") (by decide +kernel) rfl q_in3 (by decide) (x_up mw_238) rfl, ?_⟩
  refine List.forall_mem_cons.2 ⟨s_aload_n (k := 0) (by decide +kernel) rfl, ?_⟩
  refine List.forall_mem_cons.2 ⟨s_getfield (C := q_n3) (T := q_T3) (N := 3) (idx := 15) (ref := "ProofDesk$Draft") (by decide +kernel) rfl q_in3 (by decide) (x_up mw_239) rfl, ?_⟩
  refine List.forall_mem_cons.2 ⟨s_iload_n (k := 1) (by decide +kernel) rfl, ?_⟩
  refine List.forall_mem_cons.2 ⟨s_cast (by decide +kernel) rfl, ?_⟩
  refine List.forall_mem_cons.2 ⟨s_aload_n (k := 0) (by decide +kernel) rfl, ?_⟩
  refine List.forall_mem_cons.2 ⟨s_dup (by decide +kernel), ?_⟩
  refine List.forall_mem_cons.2 ⟨s_getfield (C := q_n3) (T := q_T3) (N := 3) (idx := 15) (ref := "ProofDesk$Draft") (by decide +kernel) rfl q_in3 (by decide) (x_up mw_239) rfl, ?_⟩
  refine List.forall_mem_cons.2 ⟨s_iconst (k := 1) (by decide +kernel) (by decide +kernel), ?_⟩
  refine List.forall_mem_cons.2 ⟨s_iadd (by decide +kernel), ?_⟩
  refine List.forall_mem_cons.2 ⟨s_putfield (C := q_n3) (T := q_T3) (N := 3) (idx := 15) (ref := "ProofDesk$Draft") q_t3 (by decide +kernel) rfl q_in3 q_ty3 q_nm3 (by decide) (x_up mw_239) rfl rfl (by decide +kernel), ?_⟩
  refine List.forall_mem_cons.2 ⟨s_iconst (k := 1) (by decide +kernel) (by decide +kernel), ?_⟩
  refine List.forall_mem_cons.2 ⟨s_ireturn (ty := .boolean) (by decide +kernel) rfl, ?_⟩
  exact fun _ h => absurd h List.not_mem_nil
def q_k27 : List (Nat × xO) := q_k27_0
theorem q_s27 (l : Launch) (s0 : State) : ∀ q ∈ q_k27, x_Sim (x_K s0) none l q_y27 q_c27 2 (some .boolean) q_w27 q.1 q.2 := q_s27_0 l s0
/-- ProofDesk$Draft.read(LProofDesk$Form;)Z -/
def q_k28_0 : List (Nat × xO) := [(0, x_lda 1 0), (1, x_st (x_push 2 (.int (0)))), (2, x_pf 5 3 1 (.int)), (5, x_lda 6 1), (6, x_cv 9 10 1 4), (9, x_lda 10 0), (10, x_lda 11 1), (11, x_cv 14 29 2 3), (14, x_ri (.boolean))]
set_option maxRecDepth 100000 in
set_option maxHeartbeats 4000000 in
theorem q_s28_0 (l : Launch) (s0 : State) : ∀ q ∈ q_k28_0, x_Sim (x_K s0) none l q_y28 q_c28 2 (some .boolean) q_w28 q.1 q.2 := by
  unfold q_k28_0
  refine List.forall_mem_cons.2 ⟨s_aload_n (k := 0) (by decide +kernel) rfl, ?_⟩
  refine List.forall_mem_cons.2 ⟨s_iconst (k := 0) (by decide +kernel) (by decide +kernel), ?_⟩
  refine List.forall_mem_cons.2 ⟨s_putfield (C := q_n3) (T := q_T3) (N := 3) (idx := 19) (ref := "ProofDesk$Draft") q_t3 (by decide +kernel) rfl q_in3 q_ty3 q_nm3 (by decide) (x_up mw_240) rfl rfl (by decide +kernel), ?_⟩
  refine List.forall_mem_cons.2 ⟨s_aload_n (k := 1) (by decide +kernel) rfl, ?_⟩
  refine List.forall_mem_cons.2 ⟨s_invokevirtual (idx := 22) (M := 10) (k := 0) (ci := 4) (C := q_n4) (T := q_T4) (N := 6) (ym := q_y10) (wm := q_w10) (by decide +kernel) rfl rfl rfl (x_gdV mw_242 mw_243 mw_244 mw_203 mw_241) rfl (by decide +kernel) (by decide), ?_⟩
  refine List.forall_mem_cons.2 ⟨s_aload_n (k := 0) (by decide +kernel) rfl, ?_⟩
  refine List.forall_mem_cons.2 ⟨s_aload_n (k := 1) (by decide +kernel) rfl, ?_⟩
  refine List.forall_mem_cons.2 ⟨s_invokevirtual (idx := 27) (M := 29) (k := 1) (ci := 3) (C := q_n3) (T := q_T3) (N := 3) (ym := q_y29) (wm := q_w29) (by decide +kernel) rfl rfl rfl (x_gdV mw_246 mw_247 mw_248 mw_249 mw_245) rfl (by decide +kernel) (by decide), ?_⟩
  refine List.forall_mem_cons.2 ⟨s_ireturn (ty := .boolean) (by decide +kernel) rfl, ?_⟩
  exact fun _ h => absurd h List.not_mem_nil
def q_k28 : List (Nat × xO) := q_k28_0
theorem q_s28 (l : Launch) (s0 : State) : ∀ q ∈ q_k28, x_Sim (x_K s0) none l q_y28 q_c28 2 (some .boolean) q_w28 q.1 q.2 := q_s28_0 l s0
/-- ProofDesk$Draft.readClause(LProofDesk$Form;)Z -/
def q_k29_0 : List (Nat × xO) := [(0, x_lda 1 0), (1, x_gf 4 3 2), (4, x_st (x_push 5 (.int (1)))), (5, x_st (x_icne 21 8)), (8, x_lda 9 0), (9, x_gf 12 3 0), (12, x_st (x_push 13 (.int (0)))), (13, x_ald 14 2), (14, x_st (x_push 16 (.int (35)))), (16, x_st (x_icne 21 19)), (19, x_st (x_push 20 (.int (1)))), (20, x_ri (.boolean)), (21, x_st (x_push 22 (.int (0)))), (22, x_sti 23 2), (23, x_ldi 24 2), (24, x_st (x_push 26 (.int (60)))), (26, x_st (x_icge 69 29)), (29, x_lda 30 0), (30, x_lda 31 1), (31, x_cv 34 30 2 3), (34, x_st (x_ifne 39 37)), (37, x_st (x_push 38 (.int (0)))), (38, x_ri (.boolean)), (39, x_lda 40 0), (40, x_gf 43 3 1), (43, x_lda 44 0), (44, x_gf 47 3 2), (47, x_st (x_icne 52 50)), (50, x_st (x_push 51 (.int (1)))), (51, x_ri (.boolean)), (52, x_lda 53 0), (53, x_st (x_push 55 (.int (124)))), (55, x_cv 58 34 2 3), (58, x_st (x_ifne 63 61)), (61, x_st (x_push 62 (.int (0)))), (62, x_ri (.boolean)), (63, x_iinc 66 2 (1)), (66, x_st (x_goto 23)), (69, x_st (x_push 70 (.int (0)))), (70, x_ri (.boolean))]
set_option maxRecDepth 100000 in
set_option maxHeartbeats 4000000 in
theorem q_s29_0 (l : Launch) (s0 : State) : ∀ q ∈ q_k29_0, x_Sim (x_K s0) none l q_y29 q_c29 3 (some .boolean) q_w29 q.1 q.2 := by
  unfold q_k29_0
  refine List.forall_mem_cons.2 ⟨s_aload_n (k := 0) (by decide +kernel) rfl, ?_⟩
  refine List.forall_mem_cons.2 ⟨s_getfield (C := q_n3) (T := q_T3) (N := 3) (idx := 15) (ref := "ProofDesk$Draft") (by decide +kernel) rfl q_in3 (by decide) (x_up mw_239) rfl, ?_⟩
  refine List.forall_mem_cons.2 ⟨s_iconst (k := 1) (by decide +kernel) (by decide +kernel), ?_⟩
  refine List.forall_mem_cons.2 ⟨s_icmp_ne (off := 16) (by decide +kernel) (by decide), ?_⟩
  refine List.forall_mem_cons.2 ⟨s_aload_n (k := 0) (by decide +kernel) rfl, ?_⟩
  refine List.forall_mem_cons.2 ⟨s_getfield (C := q_n3) (T := q_T3) (N := 3) (idx := 9) (ref := "ProofDesk$Draft") (by decide +kernel) rfl q_in3 (by decide) (x_up mw_238) rfl, ?_⟩
  refine List.forall_mem_cons.2 ⟨s_iconst (k := 0) (by decide +kernel) (by decide +kernel), ?_⟩
  refine List.forall_mem_cons.2 ⟨s_cald (by decide +kernel) rfl, ?_⟩
  refine List.forall_mem_cons.2 ⟨s_bipush (k := 35) (by decide +kernel) (by decide +kernel), ?_⟩
  refine List.forall_mem_cons.2 ⟨s_icmp_ne (off := 5) (by decide +kernel) (by decide), ?_⟩
  refine List.forall_mem_cons.2 ⟨s_iconst (k := 1) (by decide +kernel) (by decide +kernel), ?_⟩
  refine List.forall_mem_cons.2 ⟨s_ireturn (ty := .boolean) (by decide +kernel) rfl, ?_⟩
  refine List.forall_mem_cons.2 ⟨s_iconst (k := 0) (by decide +kernel) (by decide +kernel), ?_⟩
  refine List.forall_mem_cons.2 ⟨s_istore_n (k := 2) (by decide +kernel) rfl (by decide), ?_⟩
  refine List.forall_mem_cons.2 ⟨s_iload_n (k := 2) (by decide +kernel) rfl, ?_⟩
  refine List.forall_mem_cons.2 ⟨s_bipush (k := 60) (by decide +kernel) (by decide +kernel), ?_⟩
  refine List.forall_mem_cons.2 ⟨s_icmp_ge (off := 43) (by decide +kernel) (by decide), ?_⟩
  refine List.forall_mem_cons.2 ⟨s_aload_n (k := 0) (by decide +kernel) rfl, ?_⟩
  refine List.forall_mem_cons.2 ⟨s_aload_n (k := 1) (by decide +kernel) rfl, ?_⟩
  refine List.forall_mem_cons.2 ⟨s_invokevirtual (idx := 31) (M := 30) (k := 1) (ci := 3) (C := q_n3) (T := q_T3) (N := 3) (ym := q_y30) (wm := q_w30) (by decide +kernel) rfl rfl rfl (x_gdV mw_251 mw_252 mw_253 mw_249 mw_250) rfl (by decide +kernel) (by decide), ?_⟩
  refine List.forall_mem_cons.2 ⟨s_ifne (off := 5) (by decide +kernel) (by decide), ?_⟩
  refine List.forall_mem_cons.2 ⟨s_iconst (k := 0) (by decide +kernel) (by decide +kernel), ?_⟩
  refine List.forall_mem_cons.2 ⟨s_ireturn (ty := .boolean) (by decide +kernel) rfl, ?_⟩
  refine List.forall_mem_cons.2 ⟨s_aload_n (k := 0) (by decide +kernel) rfl, ?_⟩
  refine List.forall_mem_cons.2 ⟨s_getfield (C := q_n3) (T := q_T3) (N := 3) (idx := 19) (ref := "ProofDesk$Draft") (by decide +kernel) rfl q_in3 (by decide) (x_up mw_240) rfl, ?_⟩
  refine List.forall_mem_cons.2 ⟨s_aload_n (k := 0) (by decide +kernel) rfl, ?_⟩
  refine List.forall_mem_cons.2 ⟨s_getfield (C := q_n3) (T := q_T3) (N := 3) (idx := 15) (ref := "ProofDesk$Draft") (by decide +kernel) rfl q_in3 (by decide) (x_up mw_239) rfl, ?_⟩
  refine List.forall_mem_cons.2 ⟨s_icmp_ne (off := 5) (by decide +kernel) (by decide), ?_⟩
  refine List.forall_mem_cons.2 ⟨s_iconst (k := 1) (by decide +kernel) (by decide +kernel), ?_⟩
  refine List.forall_mem_cons.2 ⟨s_ireturn (ty := .boolean) (by decide +kernel) rfl, ?_⟩
  refine List.forall_mem_cons.2 ⟨s_aload_n (k := 0) (by decide +kernel) rfl, ?_⟩
  refine List.forall_mem_cons.2 ⟨s_bipush (k := 124) (by decide +kernel) (by decide +kernel), ?_⟩
  refine List.forall_mem_cons.2 ⟨s_invokevirtual (idx := 34) (M := 34) (k := 1) (ci := 3) (C := q_n3) (T := q_T3) (N := 3) (ym := q_y34) (wm := q_w34) (by decide +kernel) rfl rfl rfl (x_gdV mw_255 mw_256 mw_257 mw_249 mw_254) rfl (by decide +kernel) (by decide), ?_⟩
  refine List.forall_mem_cons.2 ⟨s_ifne (off := 5) (by decide +kernel) (by decide), ?_⟩
  refine List.forall_mem_cons.2 ⟨s_iconst (k := 0) (by decide +kernel) (by decide +kernel), ?_⟩
  refine List.forall_mem_cons.2 ⟨s_ireturn (ty := .boolean) (by decide +kernel) rfl, ?_⟩
  refine List.forall_mem_cons.2 ⟨s_iinc (k := 1) (by decide +kernel) (by decide +kernel) (by decide), ?_⟩
  refine List.forall_mem_cons.2 ⟨s_goto (off := -43) (by decide +kernel) (by decide), ?_⟩
  refine List.forall_mem_cons.2 ⟨s_iconst (k := 0) (by decide +kernel) (by decide +kernel), ?_⟩
  refine List.forall_mem_cons.2 ⟨s_ireturn (ty := .boolean) (by decide +kernel) rfl, ?_⟩
  exact fun _ h => absurd h List.not_mem_nil
def q_k29 : List (Nat × xO) := q_k29_0
theorem q_s29 (l : Launch) (s0 : State) : ∀ q ∈ q_k29, x_Sim (x_K s0) none l q_y29 q_c29 3 (some .boolean) q_w29 q.1 q.2 := q_s29_0 l s0
/-- ProofDesk$Draft.readLiteral(LProofDesk$Form;)Z -/
def q_k30_0 : List (Nat × xO) := [(0, x_lda 1 1), (1, x_lda 2 0), (2, x_st (x_push 4 (.int (126)))), (4, x_cv 7 34 2 3), (7, x_cv 10 15 2 4), (10, x_lda 11 0), (11, x_cv 14 31 1 3), (14, x_st (x_ifeq 66 17)), (17, x_lda 18 1), (18, x_st (x_push 20 (.int (106)))), (20, x_cv 23 16 2 4), (23, x_st (x_ifeq 64 26)), (26, x_lda 27 0), (27, x_lda 28 1), (28, x_st (x_push 29 (.int (0)))), (29, x_cv 32 33 3 3), (32, x_st (x_ifeq 64 35)), (35, x_lda 36 0), (36, x_st (x_push 38 (.int (61)))), (38, x_cv 41 34 2 3), (41, x_st (x_ifeq 64 44)), (44, x_lda 45 0), (45, x_lda 46 1), (46, x_st (x_push 47 (.int (0)))), (47, x_cv 50 33 3 3), (50, x_st (x_ifeq 64 53)), (53, x_lda 54 1), (54, x_cv 57 17 1 4), (57, x_st (x_ifeq 64 60)), (60, x_st (x_push 61 (.int (1)))), (61, x_st (x_goto 65)), (64, x_st (x_push 65 (.int (0)))), (65, x_ri (.boolean)), (66, x_lda 67 0), (67, x_cv 70 32 1 3), (70, x_st (x_ifne 93 73)), (73, x_lda 74 0), (74, x_lda 75 1), (75, x_st (x_push 76 (.int (0)))), (76, x_cv 79 33 3 3)]
set_option maxRecDepth 100000 in
set_option maxHeartbeats 4000000 in
theorem q_s30_0 (l : Launch) (s0 : State) : ∀ q ∈ q_k30_0, x_Sim (x_K s0) none l q_y30 q_c30 2 (some .boolean) q_w30 q.1 q.2 := by
  unfold q_k30_0
  refine List.forall_mem_cons.2 ⟨s_aload_n (k := 1) (by decide +kernel) rfl, ?_⟩
  refine List.forall_mem_cons.2 ⟨s_aload_n (k := 0) (by decide +kernel) rfl, ?_⟩
  refine List.forall_mem_cons.2 ⟨s_bipush (k := 126) (by decide +kernel) (by decide +kernel), ?_⟩
  refine List.forall_mem_cons.2 ⟨s_invokevirtual (idx := 34) (M := 34) (k := 1) (ci := 3) (C := q_n3) (T := q_T3) (N := 3) (ym := q_y34) (wm := q_w34) (by decide +kernel) rfl rfl rfl (x_gdV mw_255 mw_256 mw_257 mw_249 mw_254) rfl (by decide +kernel) (by decide), ?_⟩
  refine List.forall_mem_cons.2 ⟨s_invokevirtual (idx := 38) (M := 15) (k := 1) (ci := 4) (C := q_n4) (T := q_T4) (N := 6) (ym := q_y15) (wm := q_w15) (by decide +kernel) rfl rfl rfl (x_gdV mw_259 mw_260 mw_261 mw_203 mw_258) rfl (by decide +kernel) (by decide), ?_⟩
  refine List.forall_mem_cons.2 ⟨s_aload_n (k := 0) (by decide +kernel) rfl, ?_⟩
  refine List.forall_mem_cons.2 ⟨s_invokevirtual (idx := 42) (M := 31) (k := 0) (ci := 3) (C := q_n3) (T := q_T3) (N := 3) (ym := q_y31) (wm := q_w31) (by decide +kernel) rfl rfl rfl (x_gdV mw_263 mw_264 mw_265 mw_249 mw_262) rfl (by decide +kernel) (by decide), ?_⟩
  refine List.forall_mem_cons.2 ⟨s_ifeq (off := 52) (by decide +kernel) (by decide), ?_⟩
  refine List.forall_mem_cons.2 ⟨s_aload_n (k := 1) (by decide +kernel) rfl, ?_⟩
  refine List.forall_mem_cons.2 ⟨s_bipush (k := 106) (by decide +kernel) (by decide +kernel), ?_⟩
  refine List.forall_mem_cons.2 ⟨s_invokevirtual (idx := 48) (M := 16) (k := 1) (ci := 4) (C := q_n4) (T := q_T4) (N := 6) (ym := q_y16) (wm := q_w16) (by decide +kernel) rfl rfl rfl (x_gdV mw_267 mw_268 mw_269 mw_203 mw_266) rfl (by decide +kernel) (by decide), ?_⟩
  refine List.forall_mem_cons.2 ⟨s_ifeq (off := 41) (by decide +kernel) (by decide), ?_⟩
  refine List.forall_mem_cons.2 ⟨s_aload_n (k := 0) (by decide +kernel) rfl, ?_⟩
  refine List.forall_mem_cons.2 ⟨s_aload_n (k := 1) (by decide +kernel) rfl, ?_⟩
  refine List.forall_mem_cons.2 ⟨s_iconst (k := 0) (by decide +kernel) (by decide +kernel), ?_⟩
  refine List.forall_mem_cons.2 ⟨s_invokevirtual (idx := 52) (M := 33) (k := 2) (ci := 3) (C := q_n3) (T := q_T3) (N := 3) (ym := q_y33) (wm := q_w33) (by decide +kernel) rfl rfl rfl (x_gdV mw_271 mw_272 mw_273 mw_249 mw_270) rfl (by decide +kernel) (by decide), ?_⟩
  refine List.forall_mem_cons.2 ⟨s_ifeq (off := 32) (by decide +kernel) (by decide), ?_⟩
  refine List.forall_mem_cons.2 ⟨s_aload_n (k := 0) (by decide +kernel) rfl, ?_⟩
  refine List.forall_mem_cons.2 ⟨s_bipush (k := 61) (by decide +kernel) (by decide +kernel), ?_⟩
  refine List.forall_mem_cons.2 ⟨s_invokevirtual (idx := 34) (M := 34) (k := 1) (ci := 3) (C := q_n3) (T := q_T3) (N := 3) (ym := q_y34) (wm := q_w34) (by decide +kernel) rfl rfl rfl (x_gdV mw_255 mw_256 mw_257 mw_249 mw_254) rfl (by decide +kernel) (by decide), ?_⟩
  refine List.forall_mem_cons.2 ⟨s_ifeq (off := 23) (by decide +kernel) (by decide), ?_⟩
  refine List.forall_mem_cons.2 ⟨s_aload_n (k := 0) (by decide +kernel) rfl, ?_⟩
  refine List.forall_mem_cons.2 ⟨s_aload_n (k := 1) (by decide +kernel) rfl, ?_⟩
  refine List.forall_mem_cons.2 ⟨s_iconst (k := 0) (by decide +kernel) (by decide +kernel), ?_⟩
  refine List.forall_mem_cons.2 ⟨s_invokevirtual (idx := 52) (M := 33) (k := 2) (ci := 3) (C := q_n3) (T := q_T3) (N := 3) (ym := q_y33) (wm := q_w33) (by decide +kernel) rfl rfl rfl (x_gdV mw_271 mw_272 mw_273 mw_249 mw_270) rfl (by decide +kernel) (by decide), ?_⟩
  refine List.forall_mem_cons.2 ⟨s_ifeq (off := 14) (by decide +kernel) (by decide), ?_⟩
  refine List.forall_mem_cons.2 ⟨s_aload_n (k := 1) (by decide +kernel) rfl, ?_⟩
  refine List.forall_mem_cons.2 ⟨s_invokevirtual (idx := 56) (M := 17) (k := 0) (ci := 4) (C := q_n4) (T := q_T4) (N := 6) (ym := q_y17) (wm := q_w17) (by decide +kernel) rfl rfl rfl (x_gdV mw_275 mw_276 mw_277 mw_203 mw_274) rfl (by decide +kernel) (by decide), ?_⟩
  refine List.forall_mem_cons.2 ⟨s_ifeq (off := 7) (by decide +kernel) (by decide), ?_⟩
  refine List.forall_mem_cons.2 ⟨s_iconst (k := 1) (by decide +kernel) (by decide +kernel), ?_⟩
  refine List.forall_mem_cons.2 ⟨s_goto (off := 4) (by decide +kernel) (by decide), ?_⟩
  refine List.forall_mem_cons.2 ⟨s_iconst (k := 0) (by decide +kernel) (by decide +kernel), ?_⟩
  refine List.forall_mem_cons.2 ⟨s_ireturn (ty := .boolean) (by decide +kernel) rfl, ?_⟩
  refine List.forall_mem_cons.2 ⟨s_aload_n (k := 0) (by decide +kernel) rfl, ?_⟩
  refine List.forall_mem_cons.2 ⟨s_invokevirtual (idx := 59) (M := 32) (k := 0) (ci := 3) (C := q_n3) (T := q_T3) (N := 3) (ym := q_y32) (wm := q_w32) (by decide +kernel) rfl rfl rfl (x_gdV mw_279 mw_280 mw_281 mw_249 mw_278) rfl (by decide +kernel) (by decide), ?_⟩
  refine List.forall_mem_cons.2 ⟨s_ifne (off := 23) (by decide +kernel) (by decide), ?_⟩
  refine List.forall_mem_cons.2 ⟨s_aload_n (k := 0) (by decide +kernel) rfl, ?_⟩
  refine List.forall_mem_cons.2 ⟨s_aload_n (k := 1) (by decide +kernel) rfl, ?_⟩
  refine List.forall_mem_cons.2 ⟨s_iconst (k := 0) (by decide +kernel) (by decide +kernel), ?_⟩
  refine List.forall_mem_cons.2 ⟨s_invokevirtual (idx := 52) (M := 33) (k := 2) (ci := 3) (C := q_n3) (T := q_T3) (N := 3) (ym := q_y33) (wm := q_w33) (by decide +kernel) rfl rfl rfl (x_gdV mw_271 mw_272 mw_273 mw_249 mw_270) rfl (by decide +kernel) (by decide), ?_⟩
  exact fun _ h => absurd h List.not_mem_nil
def q_k30_1 : List (Nat × xO) := [(79, x_st (x_ifeq 93 82)), (82, x_lda 83 1), (83, x_cv 86 17 1 4), (86, x_st (x_ifeq 93 89)), (89, x_st (x_push 90 (.int (1)))), (90, x_st (x_goto 94)), (93, x_st (x_push 94 (.int (0)))), (94, x_ri (.boolean))]
set_option maxRecDepth 100000 in
set_option maxHeartbeats 4000000 in
theorem q_s30_1 (l : Launch) (s0 : State) : ∀ q ∈ q_k30_1, x_Sim (x_K s0) none l q_y30 q_c30 2 (some .boolean) q_w30 q.1 q.2 := by
  unfold q_k30_1
  refine List.forall_mem_cons.2 ⟨s_ifeq (off := 14) (by decide +kernel) (by decide), ?_⟩
  refine List.forall_mem_cons.2 ⟨s_aload_n (k := 1) (by decide +kernel) rfl, ?_⟩
  refine List.forall_mem_cons.2 ⟨s_invokevirtual (idx := 56) (M := 17) (k := 0) (ci := 4) (C := q_n4) (T := q_T4) (N := 6) (ym := q_y17) (wm := q_w17) (by decide +kernel) rfl rfl rfl (x_gdV mw_275 mw_276 mw_277 mw_203 mw_274) rfl (by decide +kernel) (by decide), ?_⟩
  refine List.forall_mem_cons.2 ⟨s_ifeq (off := 7) (by decide +kernel) (by decide), ?_⟩
  refine List.forall_mem_cons.2 ⟨s_iconst (k := 1) (by decide +kernel) (by decide +kernel), ?_⟩
  refine List.forall_mem_cons.2 ⟨s_goto (off := 4) (by decide +kernel) (by decide), ?_⟩
  refine List.forall_mem_cons.2 ⟨s_iconst (k := 0) (by decide +kernel) (by decide +kernel), ?_⟩
  refine List.forall_mem_cons.2 ⟨s_ireturn (ty := .boolean) (by decide +kernel) rfl, ?_⟩
  exact fun _ h => absurd h List.not_mem_nil
def q_k30 : List (Nat × xO) := q_k30_0 ++ q_k30_1
theorem q_s30 (l : Launch) (s0 : State) : ∀ q ∈ q_k30, x_Sim (x_K s0) none l q_y30 q_c30 2 (some .boolean) q_w30 q.1 q.2 := by
  intro q hq
  simp only [q_k30, List.mem_append] at hq
  rcases hq with h0 | h1
  · exact q_s30_0 l s0 q h0
  · exact q_s30_1 l s0 q h1
/-- ProofDesk$Draft.isEquationAhead()Z -/
def q_k31_0 : List (Nat × xO) := [(0, x_lda 1 0), (1, x_gf 4 3 1), (4, x_sti 5 1), (5, x_ldi 6 1), (6, x_lda 7 0), (7, x_gf 10 3 2), (10, x_st (x_icge 43 13)), (13, x_lda 14 0), (14, x_gf 17 3 0), (17, x_ldi 18 1), (18, x_ald 19 2), (19, x_st (x_push 21 (.int (124)))), (21, x_st (x_iceq 43 24)), (24, x_lda 25 0), (25, x_gf 28 3 0), (28, x_ldi 29 1), (29, x_ald 30 2), (30, x_st (x_push 32 (.int (61)))), (32, x_st (x_icne 37 35)), (35, x_st (x_push 36 (.int (1)))), (36, x_ri (.boolean)), (37, x_iinc 40 1 (1)), (40, x_st (x_goto 5)), (43, x_st (x_push 44 (.int (0)))), (44, x_ri (.boolean))]
set_option maxRecDepth 100000 in
set_option maxHeartbeats 4000000 in
theorem q_s31_0 (l : Launch) (s0 : State) : ∀ q ∈ q_k31_0, x_Sim (x_K s0) none l q_y31 q_c31 2 (some .boolean) q_w31 q.1 q.2 := by
  unfold q_k31_0
  refine List.forall_mem_cons.2 ⟨s_aload_n (k := 0) (by decide +kernel) rfl, ?_⟩
  refine List.forall_mem_cons.2 ⟨s_getfield (C := q_n3) (T := q_T3) (N := 3) (idx := 19) (ref := "ProofDesk$Draft") (by decide +kernel) rfl q_in3 (by decide) (x_up mw_240) rfl, ?_⟩
  refine List.forall_mem_cons.2 ⟨s_istore_n (k := 1) (by decide +kernel) rfl (by decide), ?_⟩
  refine List.forall_mem_cons.2 ⟨s_iload_n (k := 1) (by decide +kernel) rfl, ?_⟩
  refine List.forall_mem_cons.2 ⟨s_aload_n (k := 0) (by decide +kernel) rfl, ?_⟩
  refine List.forall_mem_cons.2 ⟨s_getfield (C := q_n3) (T := q_T3) (N := 3) (idx := 15) (ref := "ProofDesk$Draft") (by decide +kernel) rfl q_in3 (by decide) (x_up mw_239) rfl, ?_⟩
  refine List.forall_mem_cons.2 ⟨s_icmp_ge (off := 33) (by decide +kernel) (by decide), ?_⟩
  refine List.forall_mem_cons.2 ⟨s_aload_n (k := 0) (by decide +kernel) rfl, ?_⟩
  refine List.forall_mem_cons.2 ⟨s_getfield (C := q_n3) (T := q_T3) (N := 3) (idx := 9) (ref := "ProofDesk$Draft") (by decide +kernel) rfl q_in3 (by decide) (x_up mw_238) rfl, ?_⟩
  refine List.forall_mem_cons.2 ⟨s_iload_n (k := 1) (by decide +kernel) rfl, ?_⟩
  refine List.forall_mem_cons.2 ⟨s_cald (by decide +kernel) rfl, ?_⟩
  refine List.forall_mem_cons.2 ⟨s_bipush (k := 124) (by decide +kernel) (by decide +kernel), ?_⟩
  refine List.forall_mem_cons.2 ⟨s_icmp_eq (off := 22) (by decide +kernel) (by decide), ?_⟩
  refine List.forall_mem_cons.2 ⟨s_aload_n (k := 0) (by decide +kernel) rfl, ?_⟩
  refine List.forall_mem_cons.2 ⟨s_getfield (C := q_n3) (T := q_T3) (N := 3) (idx := 9) (ref := "ProofDesk$Draft") (by decide +kernel) rfl q_in3 (by decide) (x_up mw_238) rfl, ?_⟩
  refine List.forall_mem_cons.2 ⟨s_iload_n (k := 1) (by decide +kernel) rfl, ?_⟩
  refine List.forall_mem_cons.2 ⟨s_cald (by decide +kernel) rfl, ?_⟩
  refine List.forall_mem_cons.2 ⟨s_bipush (k := 61) (by decide +kernel) (by decide +kernel), ?_⟩
  refine List.forall_mem_cons.2 ⟨s_icmp_ne (off := 5) (by decide +kernel) (by decide), ?_⟩
  refine List.forall_mem_cons.2 ⟨s_iconst (k := 1) (by decide +kernel) (by decide +kernel), ?_⟩
  refine List.forall_mem_cons.2 ⟨s_ireturn (ty := .boolean) (by decide +kernel) rfl, ?_⟩
  refine List.forall_mem_cons.2 ⟨s_iinc (k := 1) (by decide +kernel) (by decide +kernel) (by decide), ?_⟩
  refine List.forall_mem_cons.2 ⟨s_goto (off := -35) (by decide +kernel) (by decide), ?_⟩
  refine List.forall_mem_cons.2 ⟨s_iconst (k := 0) (by decide +kernel) (by decide +kernel), ?_⟩
  refine List.forall_mem_cons.2 ⟨s_ireturn (ty := .boolean) (by decide +kernel) rfl, ?_⟩
  exact fun _ h => absurd h List.not_mem_nil
def q_k31 : List (Nat × xO) := q_k31_0
theorem q_s31 (l : Launch) (s0 : State) : ∀ q ∈ q_k31, x_Sim (x_K s0) none l q_y31 q_c31 2 (some .boolean) q_w31 q.1 q.2 := q_s31_0 l s0
/-- ProofDesk$Draft.isVariableAhead()Z -/
def q_k32_0 : List (Nat × xO) := [(0, x_lda 1 0), (1, x_gf 4 3 1), (4, x_lda 5 0), (5, x_gf 8 3 2), (8, x_st (x_icge 43 11)), (11, x_lda 12 0), (12, x_gf 15 3 0), (15, x_lda 16 0), (16, x_gf 19 3 1), (19, x_ald 20 2), (20, x_st (x_push 22 (.int (65)))), (22, x_st (x_iclt 43 25)), (25, x_lda 26 0), (26, x_gf 29 3 0), (29, x_lda 30 0), (30, x_gf 33 3 1), (33, x_ald 34 2), (34, x_st (x_push 36 (.int (90)))), (36, x_st (x_icgt 43 39)), (39, x_st (x_push 40 (.int (1)))), (40, x_st (x_goto 44)), (43, x_st (x_push 44 (.int (0)))), (44, x_ri (.boolean))]
set_option maxRecDepth 100000 in
set_option maxHeartbeats 4000000 in
theorem q_s32_0 (l : Launch) (s0 : State) : ∀ q ∈ q_k32_0, x_Sim (x_K s0) none l q_y32 q_c32 1 (some .boolean) q_w32 q.1 q.2 := by
  unfold q_k32_0
  refine List.forall_mem_cons.2 ⟨s_aload_n (k := 0) (by decide +kernel) rfl, ?_⟩
  refine List.forall_mem_cons.2 ⟨s_getfield (C := q_n3) (T := q_T3) (N := 3) (idx := 19) (ref := "ProofDesk$Draft") (by decide +kernel) rfl q_in3 (by decide) (x_up mw_240) rfl, ?_⟩
  refine List.forall_mem_cons.2 ⟨s_aload_n (k := 0) (by decide +kernel) rfl, ?_⟩
  refine List.forall_mem_cons.2 ⟨s_getfield (C := q_n3) (T := q_T3) (N := 3) (idx := 15) (ref := "ProofDesk$Draft") (by decide +kernel) rfl q_in3 (by decide) (x_up mw_239) rfl, ?_⟩
  refine List.forall_mem_cons.2 ⟨s_icmp_ge (off := 35) (by decide +kernel) (by decide), ?_⟩
  refine List.forall_mem_cons.2 ⟨s_aload_n (k := 0) (by decide +kernel) rfl, ?_⟩
  refine List.forall_mem_cons.2 ⟨s_getfield (C := q_n3) (T := q_T3) (N := 3) (idx := 9) (ref := "ProofDesk$Draft") (by decide +kernel) rfl q_in3 (by decide) (x_up mw_238) rfl, ?_⟩
  refine List.forall_mem_cons.2 ⟨s_aload_n (k := 0) (by decide +kernel) rfl, ?_⟩
  refine List.forall_mem_cons.2 ⟨s_getfield (C := q_n3) (T := q_T3) (N := 3) (idx := 19) (ref := "ProofDesk$Draft") (by decide +kernel) rfl q_in3 (by decide) (x_up mw_240) rfl, ?_⟩
  refine List.forall_mem_cons.2 ⟨s_cald (by decide +kernel) rfl, ?_⟩
  refine List.forall_mem_cons.2 ⟨s_bipush (k := 65) (by decide +kernel) (by decide +kernel), ?_⟩
  refine List.forall_mem_cons.2 ⟨s_icmp_lt (off := 21) (by decide +kernel) (by decide), ?_⟩
  refine List.forall_mem_cons.2 ⟨s_aload_n (k := 0) (by decide +kernel) rfl, ?_⟩
  refine List.forall_mem_cons.2 ⟨s_getfield (C := q_n3) (T := q_T3) (N := 3) (idx := 9) (ref := "ProofDesk$Draft") (by decide +kernel) rfl q_in3 (by decide) (x_up mw_238) rfl, ?_⟩
  refine List.forall_mem_cons.2 ⟨s_aload_n (k := 0) (by decide +kernel) rfl, ?_⟩
  refine List.forall_mem_cons.2 ⟨s_getfield (C := q_n3) (T := q_T3) (N := 3) (idx := 19) (ref := "ProofDesk$Draft") (by decide +kernel) rfl q_in3 (by decide) (x_up mw_240) rfl, ?_⟩
  refine List.forall_mem_cons.2 ⟨s_cald (by decide +kernel) rfl, ?_⟩
  refine List.forall_mem_cons.2 ⟨s_bipush (k := 90) (by decide +kernel) (by decide +kernel), ?_⟩
  refine List.forall_mem_cons.2 ⟨s_icmp_gt (off := 7) (by decide +kernel) (by decide), ?_⟩
  refine List.forall_mem_cons.2 ⟨s_iconst (k := 1) (by decide +kernel) (by decide +kernel), ?_⟩
  refine List.forall_mem_cons.2 ⟨s_goto (off := 4) (by decide +kernel) (by decide), ?_⟩
  refine List.forall_mem_cons.2 ⟨s_iconst (k := 0) (by decide +kernel) (by decide +kernel), ?_⟩
  refine List.forall_mem_cons.2 ⟨s_ireturn (ty := .boolean) (by decide +kernel) rfl, ?_⟩
  exact fun _ h => absurd h List.not_mem_nil
def q_k32 : List (Nat × xO) := q_k32_0
theorem q_s32 (l : Launch) (s0 : State) : ∀ q ∈ q_k32, x_Sim (x_K s0) none l q_y32 q_c32 1 (some .boolean) q_w32 q.1 q.2 := q_s32_0 l s0
/-- ProofDesk$Draft.readTerm(LProofDesk$Form;I)Z -/
def q_k33_0 : List (Nat × xO) := [(0, x_ldi 1 2), (1, x_st (x_push 3 (.int (30)))), (3, x_st (x_icge 17 6)), (6, x_lda 7 0), (7, x_gf 10 3 1), (10, x_lda 11 0), (11, x_gf 14 3 2), (14, x_st (x_iclt 19 17)), (17, x_st (x_push 18 (.int (0)))), (18, x_ri (.boolean)), (19, x_lda 20 0), (20, x_gf 23 3 0), (23, x_lda 24 0), (24, x_gf 27 3 1), (27, x_ald 28 2), (28, x_sti 29 3), (29, x_lda 30 0), (30, x_cv 33 32 1 3), (33, x_st (x_ifeq 58 36)), (36, x_lda 37 0), (37, x_st (x_dup 38)), (38, x_gf 41 3 1), (41, x_st (x_push 42 (.int (1)))), (42, x_st (x_bin 43 (fun a b => a + b))), (43, x_pf 46 3 1 (.int)), (46, x_lda 47 1), (47, x_ldi 48 3), (48, x_st (x_push 50 (.int (65)))), (50, x_st (x_bin 51 (fun a b => a - b))), (51, x_cl_ 54 1 1), (54, x_cv 57 16 2 4), (57, x_ri (.boolean)), (58, x_ldi 59 3), (59, x_st (x_push 61 (.int (97)))), (61, x_st (x_iclt 70 64)), (64, x_ldi 65 3), (65, x_st (x_push 67 (.int (122)))), (67, x_st (x_icle 72 70)), (70, x_st (x_push 71 (.int (0)))), (71, x_ri (.boolean))]
set_option maxRecDepth 100000 in
set_option maxHeartbeats 4000000 in
theorem q_s33_0 (l : Launch) (s0 : State) : ∀ q ∈ q_k33_0, x_Sim (x_K s0) none l q_y33 q_c33 6 (some .boolean) q_w33 q.1 q.2 := by
  unfold q_k33_0
  refine List.forall_mem_cons.2 ⟨s_iload_n (k := 2) (by decide +kernel) rfl, ?_⟩
  refine List.forall_mem_cons.2 ⟨s_bipush (k := 30) (by decide +kernel) (by decide +kernel), ?_⟩
  refine List.forall_mem_cons.2 ⟨s_icmp_ge (off := 14) (by decide +kernel) (by decide), ?_⟩
  refine List.forall_mem_cons.2 ⟨s_aload_n (k := 0) (by decide +kernel) rfl, ?_⟩
  refine List.forall_mem_cons.2 ⟨s_getfield (C := q_n3) (T := q_T3) (N := 3) (idx := 19) (ref := "ProofDesk$Draft") (by decide +kernel) rfl q_in3 (by decide) (x_up mw_240) rfl, ?_⟩
  refine List.forall_mem_cons.2 ⟨s_aload_n (k := 0) (by decide +kernel) rfl, ?_⟩
  refine List.forall_mem_cons.2 ⟨s_getfield (C := q_n3) (T := q_T3) (N := 3) (idx := 15) (ref := "ProofDesk$Draft") (by decide +kernel) rfl q_in3 (by decide) (x_up mw_239) rfl, ?_⟩
  refine List.forall_mem_cons.2 ⟨s_icmp_lt (off := 5) (by decide +kernel) (by decide), ?_⟩
  refine List.forall_mem_cons.2 ⟨s_iconst (k := 0) (by decide +kernel) (by decide +kernel), ?_⟩
  refine List.forall_mem_cons.2 ⟨s_ireturn (ty := .boolean) (by decide +kernel) rfl, ?_⟩
  refine List.forall_mem_cons.2 ⟨s_aload_n (k := 0) (by decide +kernel) rfl, ?_⟩
  refine List.forall_mem_cons.2 ⟨s_getfield (C := q_n3) (T := q_T3) (N := 3) (idx := 9) (ref := "ProofDesk$Draft") (by decide +kernel) rfl q_in3 (by decide) (x_up mw_238) rfl, ?_⟩
  refine List.forall_mem_cons.2 ⟨s_aload_n (k := 0) (by decide +kernel) rfl, ?_⟩
  refine List.forall_mem_cons.2 ⟨s_getfield (C := q_n3) (T := q_T3) (N := 3) (idx := 19) (ref := "ProofDesk$Draft") (by decide +kernel) rfl q_in3 (by decide) (x_up mw_240) rfl, ?_⟩
  refine List.forall_mem_cons.2 ⟨s_cald (by decide +kernel) rfl, ?_⟩
  refine List.forall_mem_cons.2 ⟨s_istore_n (k := 3) (by decide +kernel) rfl (by decide), ?_⟩
  refine List.forall_mem_cons.2 ⟨s_aload_n (k := 0) (by decide +kernel) rfl, ?_⟩
  refine List.forall_mem_cons.2 ⟨s_invokevirtual (idx := 59) (M := 32) (k := 0) (ci := 3) (C := q_n3) (T := q_T3) (N := 3) (ym := q_y32) (wm := q_w32) (by decide +kernel) rfl rfl rfl (x_gdV mw_279 mw_280 mw_281 mw_249 mw_278) rfl (by decide +kernel) (by decide), ?_⟩
  refine List.forall_mem_cons.2 ⟨s_ifeq (off := 25) (by decide +kernel) (by decide), ?_⟩
  refine List.forall_mem_cons.2 ⟨s_aload_n (k := 0) (by decide +kernel) rfl, ?_⟩
  refine List.forall_mem_cons.2 ⟨s_dup (by decide +kernel), ?_⟩
  refine List.forall_mem_cons.2 ⟨s_getfield (C := q_n3) (T := q_T3) (N := 3) (idx := 19) (ref := "ProofDesk$Draft") (by decide +kernel) rfl q_in3 (by decide) (x_up mw_240) rfl, ?_⟩
  refine List.forall_mem_cons.2 ⟨s_iconst (k := 1) (by decide +kernel) (by decide +kernel), ?_⟩
  refine List.forall_mem_cons.2 ⟨s_iadd (by decide +kernel), ?_⟩
  refine List.forall_mem_cons.2 ⟨s_putfield (C := q_n3) (T := q_T3) (N := 3) (idx := 19) (ref := "ProofDesk$Draft") q_t3 (by decide +kernel) rfl q_in3 q_ty3 q_nm3 (by decide) (x_up mw_240) rfl rfl (by decide +kernel), ?_⟩
  refine List.forall_mem_cons.2 ⟨s_aload_n (k := 1) (by decide +kernel) rfl, ?_⟩
  refine List.forall_mem_cons.2 ⟨s_iload_n (k := 3) (by decide +kernel) rfl, ?_⟩
  refine List.forall_mem_cons.2 ⟨s_bipush (k := 65) (by decide +kernel) (by decide +kernel), ?_⟩
  refine List.forall_mem_cons.2 ⟨s_isub (by decide +kernel), ?_⟩
  refine List.forall_mem_cons.2 ⟨s_invokestatic (idx := 62) (M := 1) (ym := q_y1) (wm := q_w1) (by decide +kernel) rfl rfl (x_gdS mw_282 mw_223 mw_175 mw_221) rfl (by decide +kernel) (by decide), ?_⟩
  refine List.forall_mem_cons.2 ⟨s_invokevirtual (idx := 48) (M := 16) (k := 1) (ci := 4) (C := q_n4) (T := q_T4) (N := 6) (ym := q_y16) (wm := q_w16) (by decide +kernel) rfl rfl rfl (x_gdV mw_267 mw_268 mw_269 mw_203 mw_266) rfl (by decide +kernel) (by decide), ?_⟩
  refine List.forall_mem_cons.2 ⟨s_ireturn (ty := .boolean) (by decide +kernel) rfl, ?_⟩
  refine List.forall_mem_cons.2 ⟨s_iload_n (k := 3) (by decide +kernel) rfl, ?_⟩
  refine List.forall_mem_cons.2 ⟨s_bipush (k := 97) (by decide +kernel) (by decide +kernel), ?_⟩
  refine List.forall_mem_cons.2 ⟨s_icmp_lt (off := 9) (by decide +kernel) (by decide), ?_⟩
  refine List.forall_mem_cons.2 ⟨s_iload_n (k := 3) (by decide +kernel) rfl, ?_⟩
  refine List.forall_mem_cons.2 ⟨s_bipush (k := 122) (by decide +kernel) (by decide +kernel), ?_⟩
  refine List.forall_mem_cons.2 ⟨s_icmp_le (off := 5) (by decide +kernel) (by decide), ?_⟩
  refine List.forall_mem_cons.2 ⟨s_iconst (k := 0) (by decide +kernel) (by decide +kernel), ?_⟩
  refine List.forall_mem_cons.2 ⟨s_ireturn (ty := .boolean) (by decide +kernel) rfl, ?_⟩
  exact fun _ h => absurd h List.not_mem_nil
def q_k33_1 : List (Nat × xO) := [(72, x_lda 73 0), (73, x_st (x_dup 74)), (74, x_gf 77 3 1), (77, x_st (x_push 78 (.int (1)))), (78, x_st (x_bin 79 (fun a b => a + b))), (79, x_pf 82 3 1 (.int)), (82, x_lda 83 1), (83, x_gf 86 4 4), (86, x_sti 88 4), (88, x_lda 89 1), (89, x_ldi 90 3), (90, x_st (x_push 91 (.int (0)))), (91, x_cl_ 94 0 2), (94, x_cv 97 16 2 4), (97, x_st (x_ifne 102 100)), (100, x_st (x_push 101 (.int (0)))), (101, x_ri (.boolean)), (102, x_lda 103 0), (103, x_st (x_push 105 (.int (40)))), (105, x_cv 108 34 2 3), (108, x_st (x_ifne 113 111)), (111, x_st (x_push 112 (.int (1)))), (112, x_ri (.boolean)), (113, x_st (x_push 114 (.int (1)))), (114, x_sti 116 5), (116, x_ldi 118 5), (118, x_st (x_push 119 (.int (3)))), (119, x_st (x_icgt 176 122)), (122, x_lda 123 0), (123, x_lda 124 1), (124, x_ldi 125 2), (125, x_st (x_push 126 (.int (1)))), (126, x_st (x_bin 127 (fun a b => a + b))), (127, x_cv 130 33 3 3), (130, x_st (x_ifne 135 133)), (133, x_st (x_push 134 (.int (0)))), (134, x_ri (.boolean)), (135, x_lda 136 0), (136, x_st (x_push 138 (.int (41)))), (138, x_cv 141 34 2 3)]
set_option maxRecDepth 100000 in
set_option maxHeartbeats 4000000 in
theorem q_s33_1 (l : Launch) (s0 : State) : ∀ q ∈ q_k33_1, x_Sim (x_K s0) none l q_y33 q_c33 6 (some .boolean) q_w33 q.1 q.2 := by
  unfold q_k33_1
  refine List.forall_mem_cons.2 ⟨s_aload_n (k := 0) (by decide +kernel) rfl, ?_⟩
  refine List.forall_mem_cons.2 ⟨s_dup (by decide +kernel), ?_⟩
  refine List.forall_mem_cons.2 ⟨s_getfield (C := q_n3) (T := q_T3) (N := 3) (idx := 19) (ref := "ProofDesk$Draft") (by decide +kernel) rfl q_in3 (by decide) (x_up mw_240) rfl, ?_⟩
  refine List.forall_mem_cons.2 ⟨s_iconst (k := 1) (by decide +kernel) (by decide +kernel), ?_⟩
  refine List.forall_mem_cons.2 ⟨s_iadd (by decide +kernel), ?_⟩
  refine List.forall_mem_cons.2 ⟨s_putfield (C := q_n3) (T := q_T3) (N := 3) (idx := 19) (ref := "ProofDesk$Draft") q_t3 (by decide +kernel) rfl q_in3 q_ty3 q_nm3 (by decide) (x_up mw_240) rfl rfl (by decide +kernel), ?_⟩
  refine List.forall_mem_cons.2 ⟨s_aload_n (k := 1) (by decide +kernel) rfl, ?_⟩
  refine List.forall_mem_cons.2 ⟨s_getfield (C := q_n4) (T := q_T4) (N := 6) (idx := 66) (ref := "ProofDesk$Form") (by decide +kernel) rfl q_in4 (by decide) (x_up mw_283) rfl, ?_⟩
  refine List.forall_mem_cons.2 ⟨s_istore (by decide +kernel) (by decide), ?_⟩
  refine List.forall_mem_cons.2 ⟨s_aload_n (k := 1) (by decide +kernel) rfl, ?_⟩
  refine List.forall_mem_cons.2 ⟨s_iload_n (k := 3) (by decide +kernel) rfl, ?_⟩
  refine List.forall_mem_cons.2 ⟨s_iconst (k := 0) (by decide +kernel) (by decide +kernel), ?_⟩
  refine List.forall_mem_cons.2 ⟨s_invokestatic (idx := 67) (M := 0) (ym := q_y0) (wm := q_w0) (by decide +kernel) rfl rfl (x_gdS mw_285 mw_286 mw_175 mw_284) rfl (by decide +kernel) (by decide), ?_⟩
  refine List.forall_mem_cons.2 ⟨s_invokevirtual (idx := 48) (M := 16) (k := 1) (ci := 4) (C := q_n4) (T := q_T4) (N := 6) (ym := q_y16) (wm := q_w16) (by decide +kernel) rfl rfl rfl (x_gdV mw_267 mw_268 mw_269 mw_203 mw_266) rfl (by decide +kernel) (by decide), ?_⟩
  refine List.forall_mem_cons.2 ⟨s_ifne (off := 5) (by decide +kernel) (by decide), ?_⟩
  refine List.forall_mem_cons.2 ⟨s_iconst (k := 0) (by decide +kernel) (by decide +kernel), ?_⟩
  refine List.forall_mem_cons.2 ⟨s_ireturn (ty := .boolean) (by decide +kernel) rfl, ?_⟩
  refine List.forall_mem_cons.2 ⟨s_aload_n (k := 0) (by decide +kernel) rfl, ?_⟩
  refine List.forall_mem_cons.2 ⟨s_bipush (k := 40) (by decide +kernel) (by decide +kernel), ?_⟩
  refine List.forall_mem_cons.2 ⟨s_invokevirtual (idx := 34) (M := 34) (k := 1) (ci := 3) (C := q_n3) (T := q_T3) (N := 3) (ym := q_y34) (wm := q_w34) (by decide +kernel) rfl rfl rfl (x_gdV mw_255 mw_256 mw_257 mw_249 mw_254) rfl (by decide +kernel) (by decide), ?_⟩
  refine List.forall_mem_cons.2 ⟨s_ifne (off := 5) (by decide +kernel) (by decide), ?_⟩
  refine List.forall_mem_cons.2 ⟨s_iconst (k := 1) (by decide +kernel) (by decide +kernel), ?_⟩
  refine List.forall_mem_cons.2 ⟨s_ireturn (ty := .boolean) (by decide +kernel) rfl, ?_⟩
  refine List.forall_mem_cons.2 ⟨s_iconst (k := 1) (by decide +kernel) (by decide +kernel), ?_⟩
  refine List.forall_mem_cons.2 ⟨s_istore (by decide +kernel) (by decide), ?_⟩
  refine List.forall_mem_cons.2 ⟨s_iload (by decide +kernel), ?_⟩
  refine List.forall_mem_cons.2 ⟨s_iconst (k := 3) (by decide +kernel) (by decide +kernel), ?_⟩
  refine List.forall_mem_cons.2 ⟨s_icmp_gt (off := 57) (by decide +kernel) (by decide), ?_⟩
  refine List.forall_mem_cons.2 ⟨s_aload_n (k := 0) (by decide +kernel) rfl, ?_⟩
  refine List.forall_mem_cons.2 ⟨s_aload_n (k := 1) (by decide +kernel) rfl, ?_⟩
  refine List.forall_mem_cons.2 ⟨s_iload_n (k := 2) (by decide +kernel) rfl, ?_⟩
  refine List.forall_mem_cons.2 ⟨s_iconst (k := 1) (by decide +kernel) (by decide +kernel), ?_⟩
  refine List.forall_mem_cons.2 ⟨s_iadd (by decide +kernel), ?_⟩
  refine List.forall_mem_cons.2 ⟨s_invokevirtual (idx := 52) (M := 33) (k := 2) (ci := 3) (C := q_n3) (T := q_T3) (N := 3) (ym := q_y33) (wm := q_w33) (by decide +kernel) rfl rfl rfl (x_gdV mw_271 mw_272 mw_273 mw_249 mw_270) rfl (by decide +kernel) (by decide), ?_⟩
  refine List.forall_mem_cons.2 ⟨s_ifne (off := 5) (by decide +kernel) (by decide), ?_⟩
  refine List.forall_mem_cons.2 ⟨s_iconst (k := 0) (by decide +kernel) (by decide +kernel), ?_⟩
  refine List.forall_mem_cons.2 ⟨s_ireturn (ty := .boolean) (by decide +kernel) rfl, ?_⟩
  refine List.forall_mem_cons.2 ⟨s_aload_n (k := 0) (by decide +kernel) rfl, ?_⟩
  refine List.forall_mem_cons.2 ⟨s_bipush (k := 41) (by decide +kernel) (by decide +kernel), ?_⟩
  refine List.forall_mem_cons.2 ⟨s_invokevirtual (idx := 34) (M := 34) (k := 1) (ci := 3) (C := q_n3) (T := q_T3) (N := 3) (ym := q_y34) (wm := q_w34) (by decide +kernel) rfl rfl rfl (x_gdV mw_255 mw_256 mw_257 mw_249 mw_254) rfl (by decide +kernel) (by decide), ?_⟩
  exact fun _ h => absurd h List.not_mem_nil
def q_k33_2 : List (Nat × xO) := [(141, x_st (x_ifeq 159 144)), (144, x_lda 145 1), (145, x_gf 148 4 0), (148, x_ldi 150 4), (150, x_ldi 151 3), (151, x_ldi 153 5), (153, x_cl_ 156 0 2), (156, x_ast 157 0 (fun x => x)), (157, x_st (x_push 158 (.int (1)))), (158, x_ri (.boolean)), (159, x_lda 160 0), (160, x_st (x_push 162 (.int (44)))), (162, x_cv 165 34 2 3), (165, x_st (x_ifne 170 168)), (168, x_st (x_push 169 (.int (0)))), (169, x_ri (.boolean)), (170, x_iinc 173 5 (1)), (173, x_st (x_goto 116)), (176, x_st (x_push 177 (.int (0)))), (177, x_ri (.boolean))]
set_option maxRecDepth 100000 in
set_option maxHeartbeats 4000000 in
theorem q_s33_2 (l : Launch) (s0 : State) : ∀ q ∈ q_k33_2, x_Sim (x_K s0) none l q_y33 q_c33 6 (some .boolean) q_w33 q.1 q.2 := by
  unfold q_k33_2
  refine List.forall_mem_cons.2 ⟨s_ifeq (off := 18) (by decide +kernel) (by decide), ?_⟩
  refine List.forall_mem_cons.2 ⟨s_aload_n (k := 1) (by decide +kernel) rfl, ?_⟩
  refine List.forall_mem_cons.2 ⟨s_getfield (C := q_n4) (T := q_T4) (N := 6) (idx := 71) (ref := "ProofDesk$Form") (by decide +kernel) rfl q_in4 (by decide) (x_up mw_287) rfl, ?_⟩
  refine List.forall_mem_cons.2 ⟨s_iload (by decide +kernel), ?_⟩
  refine List.forall_mem_cons.2 ⟨s_iload_n (k := 3) (by decide +kernel) rfl, ?_⟩
  refine List.forall_mem_cons.2 ⟨s_iload (by decide +kernel), ?_⟩
  refine List.forall_mem_cons.2 ⟨s_invokestatic (idx := 67) (M := 0) (ym := q_y0) (wm := q_w0) (by decide +kernel) rfl rfl (x_gdS mw_285 mw_286 mw_175 mw_284) rfl (by decide +kernel) (by decide), ?_⟩
  refine List.forall_mem_cons.2 ⟨s_iast (by decide +kernel) rfl, ?_⟩
  refine List.forall_mem_cons.2 ⟨s_iconst (k := 1) (by decide +kernel) (by decide +kernel), ?_⟩
  refine List.forall_mem_cons.2 ⟨s_ireturn (ty := .boolean) (by decide +kernel) rfl, ?_⟩
  refine List.forall_mem_cons.2 ⟨s_aload_n (k := 0) (by decide +kernel) rfl, ?_⟩
  refine List.forall_mem_cons.2 ⟨s_bipush (k := 44) (by decide +kernel) (by decide +kernel), ?_⟩
  refine List.forall_mem_cons.2 ⟨s_invokevirtual (idx := 34) (M := 34) (k := 1) (ci := 3) (C := q_n3) (T := q_T3) (N := 3) (ym := q_y34) (wm := q_w34) (by decide +kernel) rfl rfl rfl (x_gdV mw_255 mw_256 mw_257 mw_249 mw_254) rfl (by decide +kernel) (by decide), ?_⟩
  refine List.forall_mem_cons.2 ⟨s_ifne (off := 5) (by decide +kernel) (by decide), ?_⟩
  refine List.forall_mem_cons.2 ⟨s_iconst (k := 0) (by decide +kernel) (by decide +kernel), ?_⟩
  refine List.forall_mem_cons.2 ⟨s_ireturn (ty := .boolean) (by decide +kernel) rfl, ?_⟩
  refine List.forall_mem_cons.2 ⟨s_iinc (k := 1) (by decide +kernel) (by decide +kernel) (by decide), ?_⟩
  refine List.forall_mem_cons.2 ⟨s_goto (off := -57) (by decide +kernel) (by decide), ?_⟩
  refine List.forall_mem_cons.2 ⟨s_iconst (k := 0) (by decide +kernel) (by decide +kernel), ?_⟩
  refine List.forall_mem_cons.2 ⟨s_ireturn (ty := .boolean) (by decide +kernel) rfl, ?_⟩
  exact fun _ h => absurd h List.not_mem_nil
def q_k33 : List (Nat × xO) := q_k33_0 ++ q_k33_1 ++ q_k33_2
theorem q_s33 (l : Launch) (s0 : State) : ∀ q ∈ q_k33, x_Sim (x_K s0) none l q_y33 q_c33 6 (some .boolean) q_w33 q.1 q.2 := by
  intro q hq
  simp only [q_k33, List.mem_append] at hq
  rcases hq with (h0 | h1) | h2
  · exact q_s33_0 l s0 q h0
  · exact q_s33_1 l s0 q h1
  · exact q_s33_2 l s0 q h2
/-- ProofDesk$Draft.take(C)Z -/
def q_k34_0 : List (Nat × xO) := [(0, x_lda 1 0), (1, x_gf 4 3 1), (4, x_lda 5 0), (5, x_gf 8 3 2), (8, x_st (x_icge 24 11)), (11, x_lda 12 0), (12, x_gf 15 3 0), (15, x_lda 16 0), (16, x_gf 19 3 1), (19, x_ald 20 2), (20, x_ldi 21 1), (21, x_st (x_iceq 26 24)), (24, x_st (x_push 25 (.int (0)))), (25, x_ri (.boolean)), (26, x_lda 27 0), (27, x_st (x_dup 28)), (28, x_gf 31 3 1), (31, x_st (x_push 32 (.int (1)))), (32, x_st (x_bin 33 (fun a b => a + b))), (33, x_pf 36 3 1 (.int)), (36, x_st (x_push 37 (.int (1)))), (37, x_ri (.boolean))]
set_option maxRecDepth 100000 in
set_option maxHeartbeats 4000000 in
theorem q_s34_0 (l : Launch) (s0 : State) : ∀ q ∈ q_k34_0, x_Sim (x_K s0) none l q_y34 q_c34 2 (some .boolean) q_w34 q.1 q.2 := by
  unfold q_k34_0
  refine List.forall_mem_cons.2 ⟨s_aload_n (k := 0) (by decide +kernel) rfl, ?_⟩
  refine List.forall_mem_cons.2 ⟨s_getfield (C := q_n3) (T := q_T3) (N := 3) (idx := 19) (ref := "ProofDesk$Draft") (by decide +kernel) rfl q_in3 (by decide) (x_up mw_240) rfl, ?_⟩
  refine List.forall_mem_cons.2 ⟨s_aload_n (k := 0) (by decide +kernel) rfl, ?_⟩
  refine List.forall_mem_cons.2 ⟨s_getfield (C := q_n3) (T := q_T3) (N := 3) (idx := 15) (ref := "ProofDesk$Draft") (by decide +kernel) rfl q_in3 (by decide) (x_up mw_239) rfl, ?_⟩
  refine List.forall_mem_cons.2 ⟨s_icmp_ge (off := 16) (by decide +kernel) (by decide), ?_⟩
  refine List.forall_mem_cons.2 ⟨s_aload_n (k := 0) (by decide +kernel) rfl, ?_⟩
  refine List.forall_mem_cons.2 ⟨s_getfield (C := q_n3) (T := q_T3) (N := 3) (idx := 9) (ref := "ProofDesk$Draft") (by decide +kernel) rfl q_in3 (by decide) (x_up mw_238) rfl, ?_⟩
  refine List.forall_mem_cons.2 ⟨s_aload_n (k := 0) (by decide +kernel) rfl, ?_⟩
  refine List.forall_mem_cons.2 ⟨s_getfield (C := q_n3) (T := q_T3) (N := 3) (idx := 19) (ref := "ProofDesk$Draft") (by decide +kernel) rfl q_in3 (by decide) (x_up mw_240) rfl, ?_⟩
  refine List.forall_mem_cons.2 ⟨s_cald (by decide +kernel) rfl, ?_⟩
  refine List.forall_mem_cons.2 ⟨s_iload_n (k := 1) (by decide +kernel) rfl, ?_⟩
  refine List.forall_mem_cons.2 ⟨s_icmp_eq (off := 5) (by decide +kernel) (by decide), ?_⟩
  refine List.forall_mem_cons.2 ⟨s_iconst (k := 0) (by decide +kernel) (by decide +kernel), ?_⟩
  refine List.forall_mem_cons.2 ⟨s_ireturn (ty := .boolean) (by decide +kernel) rfl, ?_⟩
  refine List.forall_mem_cons.2 ⟨s_aload_n (k := 0) (by decide +kernel) rfl, ?_⟩
  refine List.forall_mem_cons.2 ⟨s_dup (by decide +kernel), ?_⟩
  refine List.forall_mem_cons.2 ⟨s_getfield (C := q_n3) (T := q_T3) (N := 3) (idx := 19) (ref := "ProofDesk$Draft") (by decide +kernel) rfl q_in3 (by decide) (x_up mw_240) rfl, ?_⟩
  refine List.forall_mem_cons.2 ⟨s_iconst (k := 1) (by decide +kernel) (by decide +kernel), ?_⟩
  refine List.forall_mem_cons.2 ⟨s_iadd (by decide +kernel), ?_⟩
  refine List.forall_mem_cons.2 ⟨s_putfield (C := q_n3) (T := q_T3) (N := 3) (idx := 19) (ref := "ProofDesk$Draft") q_t3 (by decide +kernel) rfl q_in3 q_ty3 q_nm3 (by decide) (x_up mw_240) rfl rfl (by decide +kernel), ?_⟩
  refine List.forall_mem_cons.2 ⟨s_iconst (k := 1) (by decide +kernel) (by decide +kernel), ?_⟩
  refine List.forall_mem_cons.2 ⟨s_ireturn (ty := .boolean) (by decide +kernel) rfl, ?_⟩
  exact fun _ h => absurd h List.not_mem_nil
def q_k34 : List (Nat × xO) := q_k34_0
theorem q_s34 (l : Launch) (s0 : State) : ∀ q ∈ q_k34, x_Sim (x_K s0) none l q_y34 q_c34 2 (some .boolean) q_w34 q.1 q.2 := q_s34_0 l s0
/-- ProofDesk$Uses.<init>()V -/
def q_k35_0 : List (Nat × xO) := [(0, x_lda 1 0), (1, x_st (x_oi 4)), (4, x_lda 5 0), (5, x_st (x_push 7 (.int (26)))), (7, x_na 9 0), (9, x_pf 12 7 0 (.array .int)), (12, x_lda 13 0), (13, x_st (x_push 15 (.int (26)))), (15, x_na 17 0), (17, x_pf 20 7 1 (.array .int)), (20, x_rv)]
set_option maxRecDepth 100000 in
set_option maxHeartbeats 4000000 in
theorem q_s35_0 (l : Launch) (s0 : State) : ∀ q ∈ q_k35_0, x_Sim (x_K s0) none l q_y35 q_c35 1 none q_w35 q.1 q.2 := by
  unfold q_k35_0
  refine List.forall_mem_cons.2 ⟨s_aload_n (k := 0) (by decide +kernel) rfl, ?_⟩
  refine List.forall_mem_cons.2 ⟨s_objInit (idx := 3) (by decide +kernel) (x_up mw_288) (x_up mw_100) (x_up mw_obj), ?_⟩
  refine List.forall_mem_cons.2 ⟨s_aload_n (k := 0) (by decide +kernel) rfl, ?_⟩
  refine List.forall_mem_cons.2 ⟨s_bipush (k := 26) (by decide +kernel) (by decide +kernel), ?_⟩
  refine List.forall_mem_cons.2 ⟨s_newarray (at0 := .int) (ty := .int) (by decide +kernel) rfl (x_up mw_188) rfl (by decide) rfl (fun _ _ h => h), ?_⟩
  refine List.forall_mem_cons.2 ⟨s_putfieldF (C := q_n7) (T := q_T7) (N := 2) (idx := 9) q_t7 (by decide +kernel) rfl q_in7 q_ty7 q_nm7 (by decide) (x_up mw_289) rfl rfl (by decide +kernel) rfl, ?_⟩
  refine List.forall_mem_cons.2 ⟨s_aload_n (k := 0) (by decide +kernel) rfl, ?_⟩
  refine List.forall_mem_cons.2 ⟨s_bipush (k := 26) (by decide +kernel) (by decide +kernel), ?_⟩
  refine List.forall_mem_cons.2 ⟨s_newarray (at0 := .int) (ty := .int) (by decide +kernel) rfl (x_up mw_188) rfl (by decide) rfl (fun _ _ h => h), ?_⟩
  refine List.forall_mem_cons.2 ⟨s_putfieldF (C := q_n7) (T := q_T7) (N := 2) (idx := 15) q_t7 (by decide +kernel) rfl q_in7 q_ty7 q_nm7 (by decide) (x_up mw_290) rfl rfl (by decide +kernel) rfl, ?_⟩
  refine List.forall_mem_cons.2 ⟨s_return (by decide +kernel) rfl, ?_⟩
  exact fun _ h => absurd h List.not_mem_nil
def q_k35 : List (Nat × xO) := q_k35_0
theorem q_s35 (l : Launch) (s0 : State) : ∀ q ∈ q_k35, x_Sim (x_K s0) none l q_y35 q_c35 1 none q_w35 q.1 q.2 := q_s35_0 l s0
/-- ProofDesk$Uses.allow(LProofDesk$Form;)Z -/
def q_k36_0 : List (Nat × xO) := [(0, x_lda 1 0), (1, x_gf 4 7 0), (4, x_st (x_push 5 (.int (0)))), (5, x_lda 6 0), (6, x_gf 9 7 1), (9, x_st (x_push 10 (.int (0)))), (10, x_st (x_push 12 (.int (26)))), (12, x_acp 15 0), (15, x_lda 16 1), (16, x_lda 17 0), (17, x_gf 20 7 1), (20, x_cl_ 23 38 2), (23, x_ri (.boolean))]
set_option maxRecDepth 100000 in
set_option maxHeartbeats 4000000 in
theorem q_s36_0 (l : Launch) (s0 : State) : ∀ q ∈ q_k36_0, x_Sim (x_K s0) none l q_y36 q_c36 2 (some .boolean) q_w36 q.1 q.2 := by
  unfold q_k36_0
  refine List.forall_mem_cons.2 ⟨s_aload_n (k := 0) (by decide +kernel) rfl, ?_⟩
  refine List.forall_mem_cons.2 ⟨s_getfield (C := q_n7) (T := q_T7) (N := 2) (idx := 9) (ref := "ProofDesk$Uses") (by decide +kernel) rfl q_in7 (by decide) (x_up mw_289) rfl, ?_⟩
  refine List.forall_mem_cons.2 ⟨s_iconst (k := 0) (by decide +kernel) (by decide +kernel), ?_⟩
  refine List.forall_mem_cons.2 ⟨s_aload_n (k := 0) (by decide +kernel) rfl, ?_⟩
  refine List.forall_mem_cons.2 ⟨s_getfield (C := q_n7) (T := q_T7) (N := 2) (idx := 15) (ref := "ProofDesk$Uses") (by decide +kernel) rfl q_in7 (by decide) (x_up mw_290) rfl, ?_⟩
  refine List.forall_mem_cons.2 ⟨s_iconst (k := 0) (by decide +kernel) (by decide +kernel), ?_⟩
  refine List.forall_mem_cons.2 ⟨s_bipush (k := 26) (by decide +kernel) (by decide +kernel), ?_⟩
  refine List.forall_mem_cons.2 ⟨s_acopy (idx := 18) (by decide +kernel) rfl (x_up mw_291) (x_up mw_292) (x_up mw_293) (x_up mw_294), ?_⟩
  refine List.forall_mem_cons.2 ⟨s_aload_n (k := 1) (by decide +kernel) rfl, ?_⟩
  refine List.forall_mem_cons.2 ⟨s_aload_n (k := 0) (by decide +kernel) rfl, ?_⟩
  refine List.forall_mem_cons.2 ⟨s_getfield (C := q_n7) (T := q_T7) (N := 2) (idx := 15) (ref := "ProofDesk$Uses") (by decide +kernel) rfl q_in7 (by decide) (x_up mw_290) rfl, ?_⟩
  refine List.forall_mem_cons.2 ⟨s_invokestatic (idx := 24) (M := 38) (ym := q_y38) (wm := q_w38) (by decide +kernel) rfl rfl (x_gdS mw_296 mw_297 mw_298 mw_295) rfl (by decide +kernel) (by decide), ?_⟩
  refine List.forall_mem_cons.2 ⟨s_ireturn (ty := .boolean) (by decide +kernel) rfl, ?_⟩
  exact fun _ h => absurd h List.not_mem_nil
def q_k36 : List (Nat × xO) := q_k36_0
theorem q_s36 (l : Launch) (s0 : State) : ∀ q ∈ q_k36, x_Sim (x_K s0) none l q_y36 q_c36 2 (some .boolean) q_w36 q.1 q.2 := q_s36_0 l s0
/-- ProofDesk$Uses.keep(LProofDesk$Form;)V -/
def q_k37_0 : List (Nat × xO) := [(0, x_lda 1 1), (1, x_lda 2 0), (2, x_gf 5 7 0), (5, x_cl_ 8 38 2), (8, x_st (x_pop 9)), (9, x_rv)]
set_option maxRecDepth 100000 in
set_option maxHeartbeats 4000000 in
theorem q_s37_0 (l : Launch) (s0 : State) : ∀ q ∈ q_k37_0, x_Sim (x_K s0) none l q_y37 q_c37 2 none q_w37 q.1 q.2 := by
  unfold q_k37_0
  refine List.forall_mem_cons.2 ⟨s_aload_n (k := 1) (by decide +kernel) rfl, ?_⟩
  refine List.forall_mem_cons.2 ⟨s_aload_n (k := 0) (by decide +kernel) rfl, ?_⟩
  refine List.forall_mem_cons.2 ⟨s_getfield (C := q_n7) (T := q_T7) (N := 2) (idx := 9) (ref := "ProofDesk$Uses") (by decide +kernel) rfl q_in7 (by decide) (x_up mw_289) rfl, ?_⟩
  refine List.forall_mem_cons.2 ⟨s_invokestatic (idx := 24) (M := 38) (ym := q_y38) (wm := q_w38) (by decide +kernel) rfl rfl (x_gdS mw_296 mw_297 mw_298 mw_295) rfl (by decide +kernel) (by decide), ?_⟩
  refine List.forall_mem_cons.2 ⟨s_pop (by decide +kernel), ?_⟩
  refine List.forall_mem_cons.2 ⟨s_return (by decide +kernel) rfl, ?_⟩
  exact fun _ h => absurd h List.not_mem_nil
def q_k37 : List (Nat × xO) := q_k37_0
theorem q_s37 (l : Launch) (s0 : State) : ∀ q ∈ q_k37, x_Sim (x_K s0) none l q_y37 q_c37 2 none q_w37 q.1 q.2 := q_s37_0 l s0
/-- ProofDesk$Uses.enter(LProofDesk$Form;[I)Z -/
def q_k38_0 : List (Nat × xO) := [(0, x_st (x_push 1 (.int (0)))), (1, x_sti 2 2), (2, x_ldi 3 2), (3, x_lda 4 0), (4, x_gf 7 4 3), (7, x_st (x_icge 117 10)), (10, x_lda 11 0), (11, x_ldi 12 2), (12, x_cv 15 11 2 4), (15, x_sti 16 3), (16, x_ldi 17 3), (17, x_sti 19 4), (19, x_ldi 21 4), (21, x_lda 22 0), (22, x_gf 25 4 1), (25, x_ldi 26 2), (26, x_ald 27 0), (27, x_st (x_icge 111 30)), (30, x_lda 31 0), (31, x_gf 34 4 0), (34, x_ldi 36 4), (36, x_ald 37 0), (37, x_sti 39 5), (39, x_ldi 41 5), (41, x_cl_ 44 4 1), (44, x_sti 46 6), (46, x_st (x_push 47 (.int (1)))), (47, x_ldi 49 5), (49, x_cl_ 52 5 1), (52, x_st (x_bin 53 (fun a b => a + b))), (53, x_ldi 55 4), (55, x_ldi 56 3), (56, x_st (x_icne 63 59)), (59, x_st (x_push 60 (.int (4)))), (60, x_st (x_goto 64)), (63, x_st (x_push 64 (.int (0)))), (64, x_st (x_bin 65 (fun a b => a + b))), (65, x_sti 67 7), (67, x_ldi 69 6), (69, x_st (x_push 71 (.int (26))))]
set_option maxRecDepth 100000 in
set_option maxHeartbeats 4000000 in
theorem q_s38_0 (l : Launch) (s0 : State) : ∀ q ∈ q_k38_0, x_Sim (x_K s0) none l q_y38 q_c38 8 (some .boolean) q_w38 q.1 q.2 := by
  unfold q_k38_0
  refine List.forall_mem_cons.2 ⟨s_iconst (k := 0) (by decide +kernel) (by decide +kernel), ?_⟩
  refine List.forall_mem_cons.2 ⟨s_istore_n (k := 2) (by decide +kernel) rfl (by decide), ?_⟩
  refine List.forall_mem_cons.2 ⟨s_iload_n (k := 2) (by decide +kernel) rfl, ?_⟩
  refine List.forall_mem_cons.2 ⟨s_aload_n (k := 0) (by decide +kernel) rfl, ?_⟩
  refine List.forall_mem_cons.2 ⟨s_getfield (C := q_n4) (T := q_T4) (N := 6) (idx := 28) (ref := "ProofDesk$Form") (by decide +kernel) rfl q_in4 (by decide) (x_up mw_299) rfl, ?_⟩
  refine List.forall_mem_cons.2 ⟨s_icmp_ge (off := 110) (by decide +kernel) (by decide), ?_⟩
  refine List.forall_mem_cons.2 ⟨s_aload_n (k := 0) (by decide +kernel) rfl, ?_⟩
  refine List.forall_mem_cons.2 ⟨s_iload_n (k := 2) (by decide +kernel) rfl, ?_⟩
  refine List.forall_mem_cons.2 ⟨s_invokevirtual (idx := 34) (M := 11) (k := 1) (ci := 4) (C := q_n4) (T := q_T4) (N := 6) (ym := q_y11) (wm := q_w11) (by decide +kernel) rfl rfl rfl (x_gdV mw_300 mw_201 mw_202 mw_203 mw_199) rfl (by decide +kernel) (by decide), ?_⟩
  refine List.forall_mem_cons.2 ⟨s_istore_n (k := 3) (by decide +kernel) rfl (by decide), ?_⟩
  refine List.forall_mem_cons.2 ⟨s_iload_n (k := 3) (by decide +kernel) rfl, ?_⟩
  refine List.forall_mem_cons.2 ⟨s_istore (by decide +kernel) (by decide), ?_⟩
  refine List.forall_mem_cons.2 ⟨s_iload (by decide +kernel), ?_⟩
  refine List.forall_mem_cons.2 ⟨s_aload_n (k := 0) (by decide +kernel) rfl, ?_⟩
  refine List.forall_mem_cons.2 ⟨s_getfield (C := q_n4) (T := q_T4) (N := 6) (idx := 38) (ref := "ProofDesk$Form") (by decide +kernel) rfl q_in4 (by decide) (x_up mw_301) rfl, ?_⟩
  refine List.forall_mem_cons.2 ⟨s_iload_n (k := 2) (by decide +kernel) rfl, ?_⟩
  refine List.forall_mem_cons.2 ⟨s_iald (by decide +kernel) rfl, ?_⟩
  refine List.forall_mem_cons.2 ⟨s_icmp_ge (off := 84) (by decide +kernel) (by decide), ?_⟩
  refine List.forall_mem_cons.2 ⟨s_aload_n (k := 0) (by decide +kernel) rfl, ?_⟩
  refine List.forall_mem_cons.2 ⟨s_getfield (C := q_n4) (T := q_T4) (N := 6) (idx := 41) (ref := "ProofDesk$Form") (by decide +kernel) rfl q_in4 (by decide) (x_up mw_302) rfl, ?_⟩
  refine List.forall_mem_cons.2 ⟨s_iload (by decide +kernel), ?_⟩
  refine List.forall_mem_cons.2 ⟨s_iald (by decide +kernel) rfl, ?_⟩
  refine List.forall_mem_cons.2 ⟨s_istore (by decide +kernel) (by decide), ?_⟩
  refine List.forall_mem_cons.2 ⟨s_iload (by decide +kernel), ?_⟩
  refine List.forall_mem_cons.2 ⟨s_invokestatic (idx := 44) (M := 4) (ym := q_y4) (wm := q_w4) (by decide +kernel) rfl rfl (x_gdS mw_303 mw_181 mw_175 mw_179) rfl (by decide +kernel) (by decide), ?_⟩
  refine List.forall_mem_cons.2 ⟨s_istore (by decide +kernel) (by decide), ?_⟩
  refine List.forall_mem_cons.2 ⟨s_iconst (k := 1) (by decide +kernel) (by decide +kernel), ?_⟩
  refine List.forall_mem_cons.2 ⟨s_iload (by decide +kernel), ?_⟩
  refine List.forall_mem_cons.2 ⟨s_invokestatic (idx := 49) (M := 5) (ym := q_y5) (wm := q_w5) (by decide +kernel) rfl rfl (x_gdS mw_304 mw_216 mw_175 mw_214) rfl (by decide +kernel) (by decide), ?_⟩
  refine List.forall_mem_cons.2 ⟨s_iadd (by decide +kernel), ?_⟩
  refine List.forall_mem_cons.2 ⟨s_iload (by decide +kernel), ?_⟩
  refine List.forall_mem_cons.2 ⟨s_iload_n (k := 3) (by decide +kernel) rfl, ?_⟩
  refine List.forall_mem_cons.2 ⟨s_icmp_ne (off := 7) (by decide +kernel) (by decide), ?_⟩
  refine List.forall_mem_cons.2 ⟨s_iconst (k := 4) (by decide +kernel) (by decide +kernel), ?_⟩
  refine List.forall_mem_cons.2 ⟨s_goto (off := 4) (by decide +kernel) (by decide), ?_⟩
  refine List.forall_mem_cons.2 ⟨s_iconst (k := 0) (by decide +kernel) (by decide +kernel), ?_⟩
  refine List.forall_mem_cons.2 ⟨s_iadd (by decide +kernel), ?_⟩
  refine List.forall_mem_cons.2 ⟨s_istore (by decide +kernel) (by decide), ?_⟩
  refine List.forall_mem_cons.2 ⟨s_iload (by decide +kernel), ?_⟩
  refine List.forall_mem_cons.2 ⟨s_bipush (k := 26) (by decide +kernel) (by decide +kernel), ?_⟩
  exact fun _ h => absurd h List.not_mem_nil
def q_k38_1 : List (Nat × xO) := [(71, x_st (x_icge 92 74)), (74, x_lda 75 1), (75, x_ldi 77 6), (77, x_ald 78 0), (78, x_st (x_ifeq 92 81)), (81, x_lda 82 1), (82, x_ldi 84 6), (84, x_ald 85 0), (85, x_ldi 87 7), (87, x_st (x_iceq 92 90)), (90, x_st (x_push 91 (.int (0)))), (91, x_ri (.boolean)), (92, x_ldi 94 6), (94, x_st (x_push 96 (.int (26)))), (96, x_st (x_icge 105 99)), (99, x_lda 100 1), (100, x_ldi 102 6), (102, x_ldi 104 7), (104, x_ast 105 0 (fun x => x)), (105, x_iinc 108 4 (1)), (108, x_st (x_goto 19)), (111, x_iinc 114 2 (1)), (114, x_st (x_goto 2)), (117, x_st (x_push 118 (.int (1)))), (118, x_ri (.boolean))]
set_option maxRecDepth 100000 in
set_option maxHeartbeats 4000000 in
theorem q_s38_1 (l : Launch) (s0 : State) : ∀ q ∈ q_k38_1, x_Sim (x_K s0) none l q_y38 q_c38 8 (some .boolean) q_w38 q.1 q.2 := by
  unfold q_k38_1
  refine List.forall_mem_cons.2 ⟨s_icmp_ge (off := 21) (by decide +kernel) (by decide), ?_⟩
  refine List.forall_mem_cons.2 ⟨s_aload_n (k := 1) (by decide +kernel) rfl, ?_⟩
  refine List.forall_mem_cons.2 ⟨s_iload (by decide +kernel), ?_⟩
  refine List.forall_mem_cons.2 ⟨s_iald (by decide +kernel) rfl, ?_⟩
  refine List.forall_mem_cons.2 ⟨s_ifeq (off := 14) (by decide +kernel) (by decide), ?_⟩
  refine List.forall_mem_cons.2 ⟨s_aload_n (k := 1) (by decide +kernel) rfl, ?_⟩
  refine List.forall_mem_cons.2 ⟨s_iload (by decide +kernel), ?_⟩
  refine List.forall_mem_cons.2 ⟨s_iald (by decide +kernel) rfl, ?_⟩
  refine List.forall_mem_cons.2 ⟨s_iload (by decide +kernel), ?_⟩
  refine List.forall_mem_cons.2 ⟨s_icmp_eq (off := 5) (by decide +kernel) (by decide), ?_⟩
  refine List.forall_mem_cons.2 ⟨s_iconst (k := 0) (by decide +kernel) (by decide +kernel), ?_⟩
  refine List.forall_mem_cons.2 ⟨s_ireturn (ty := .boolean) (by decide +kernel) rfl, ?_⟩
  refine List.forall_mem_cons.2 ⟨s_iload (by decide +kernel), ?_⟩
  refine List.forall_mem_cons.2 ⟨s_bipush (k := 26) (by decide +kernel) (by decide +kernel), ?_⟩
  refine List.forall_mem_cons.2 ⟨s_icmp_ge (off := 9) (by decide +kernel) (by decide), ?_⟩
  refine List.forall_mem_cons.2 ⟨s_aload_n (k := 1) (by decide +kernel) rfl, ?_⟩
  refine List.forall_mem_cons.2 ⟨s_iload (by decide +kernel), ?_⟩
  refine List.forall_mem_cons.2 ⟨s_iload (by decide +kernel), ?_⟩
  refine List.forall_mem_cons.2 ⟨s_iast (by decide +kernel) rfl, ?_⟩
  refine List.forall_mem_cons.2 ⟨s_iinc (k := 1) (by decide +kernel) (by decide +kernel) (by decide), ?_⟩
  refine List.forall_mem_cons.2 ⟨s_goto (off := -89) (by decide +kernel) (by decide), ?_⟩
  refine List.forall_mem_cons.2 ⟨s_iinc (k := 1) (by decide +kernel) (by decide +kernel) (by decide), ?_⟩
  refine List.forall_mem_cons.2 ⟨s_goto (off := -112) (by decide +kernel) (by decide), ?_⟩
  refine List.forall_mem_cons.2 ⟨s_iconst (k := 1) (by decide +kernel) (by decide +kernel), ?_⟩
  refine List.forall_mem_cons.2 ⟨s_ireturn (ty := .boolean) (by decide +kernel) rfl, ?_⟩
  exact fun _ h => absurd h List.not_mem_nil
def q_k38 : List (Nat × xO) := q_k38_0 ++ q_k38_1
theorem q_s38 (l : Launch) (s0 : State) : ∀ q ∈ q_k38, x_Sim (x_K s0) none l q_y38 q_c38 8 (some .boolean) q_w38 q.1 q.2 := by
  intro q hq
  simp only [q_k38, List.mem_append] at hq
  rcases hq with h0 | h1
  · exact q_s38_0 l s0 q h0
  · exact q_s38_1 l s0 q h1
