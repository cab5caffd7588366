/-- ProofDesk$Form.<init>()V -/
def q_k8_0 : List (Nat × xO) := [(0, x_lda 1 0), (1, x_st (x_oi 4)), (4, x_lda 5 0), (5, x_st (x_push 7 (.int (80)))), (7, x_na 9 0), (9, x_pf 12 4 0 (.array .int)), (12, x_lda 13 0), (13, x_st (x_push 15 (.int (7)))), (15, x_na 17 0), (17, x_pf 20 4 1 (.array .int)), (20, x_lda 21 0), (21, x_st (x_push 23 (.int (7)))), (23, x_na 25 1), (25, x_pf 28 4 2 (.array .boolean)), (28, x_rv)]
set_option maxRecDepth 100000 in
set_option maxHeartbeats 4000000 in
theorem q_s8_0 (l : Launch) (s0 : State) : ∀ q ∈ q_k8_0, x_Sim (x_K s0) none l q_y8 q_c8 1 none q_w8 q.1 q.2 := by
  unfold q_k8_0
  refine List.forall_mem_cons.2 ⟨s_aload_n (k := 0) (by decide +kernel) rfl, ?_⟩
  refine List.forall_mem_cons.2 ⟨s_objInit (idx := 3) (by decide +kernel) (x_up mw_187) (x_up mw_100) (x_up mw_obj), ?_⟩
  refine List.forall_mem_cons.2 ⟨s_aload_n (k := 0) (by decide +kernel) rfl, ?_⟩
  refine List.forall_mem_cons.2 ⟨s_bipush (k := 80) (by decide +kernel) (by decide +kernel), ?_⟩
  refine List.forall_mem_cons.2 ⟨s_newarray (at0 := .int) (ty := .int) (by decide +kernel) rfl (x_up mw_188) rfl (by decide) rfl (fun _ _ h => h), ?_⟩
  refine List.forall_mem_cons.2 ⟨s_putfieldF (C := q_n4) (T := q_T4) (N := 6) (idx := 9) q_t4 (by decide +kernel) rfl q_in4 q_ty4 q_nm4 (by decide) (x_up mw_189) rfl rfl (by decide +kernel) rfl, ?_⟩
  refine List.forall_mem_cons.2 ⟨s_aload_n (k := 0) (by decide +kernel) rfl, ?_⟩
  refine List.forall_mem_cons.2 ⟨s_bipush (k := 7) (by decide +kernel) (by decide +kernel), ?_⟩
  refine List.forall_mem_cons.2 ⟨s_newarray (at0 := .int) (ty := .int) (by decide +kernel) rfl (x_up mw_188) rfl (by decide) rfl (fun _ _ h => h), ?_⟩
  refine List.forall_mem_cons.2 ⟨s_putfieldF (C := q_n4) (T := q_T4) (N := 6) (idx := 15) q_t4 (by decide +kernel) rfl q_in4 q_ty4 q_nm4 (by decide) (x_up mw_190) rfl rfl (by decide +kernel) rfl, ?_⟩
  refine List.forall_mem_cons.2 ⟨s_aload_n (k := 0) (by decide +kernel) rfl, ?_⟩
  refine List.forall_mem_cons.2 ⟨s_bipush (k := 7) (by decide +kernel) (by decide +kernel), ?_⟩
  refine List.forall_mem_cons.2 ⟨s_newarray (at0 := .boolean) (ty := .boolean) (by decide +kernel) rfl (x_up mw_191) rfl (by decide) rfl (fun _ _ h => h), ?_⟩
  refine List.forall_mem_cons.2 ⟨s_putfieldF (C := q_n4) (T := q_T4) (N := 6) (idx := 18) q_t4 (by decide +kernel) rfl q_in4 q_ty4 q_nm4 (by decide) (x_up mw_192) rfl rfl (by decide +kernel) rfl, ?_⟩
  refine List.forall_mem_cons.2 ⟨s_return (by decide +kernel) rfl, ?_⟩
  exact fun _ h => absurd h List.not_mem_nil
def q_k8 : List (Nat × xO) := q_k8_0
theorem q_s8 (l : Launch) (s0 : State) : ∀ q ∈ q_k8, x_Sim (x_K s0) none l q_y8 q_c8 1 none q_w8 q.1 q.2 := q_s8_0 l s0
/-- ProofDesk$Form.<init>(LProofDesk$Form;)V -/
def q_k9_0 : List (Nat × xO) := [(0, x_lda 1 0), (1, x_st (x_oi 4)), (4, x_lda 5 0), (5, x_lda 6 1), (6, x_gf 9 4 0), (9, x_lda 10 1), (10, x_gf 13 4 4), (13, x_cl_ 16 149 2), (16, x_pf 19 4 0 (.array .int)), (19, x_lda 20 0), (20, x_lda 21 1), (21, x_gf 24 4 1), (24, x_lda 25 1), (25, x_gf 28 4 3), (28, x_cl_ 31 149 2), (31, x_pf 34 4 1 (.array .int)), (34, x_lda 35 0), (35, x_lda 36 1), (36, x_gf 39 4 3), (39, x_na 41 1), (41, x_pf 44 4 2 (.array .boolean)), (44, x_st (x_push 45 (.int (0)))), (45, x_sti 46 2), (46, x_ldi 47 2), (47, x_lda 48 1), (48, x_gf 51 4 3), (51, x_st (x_icge 72 54)), (54, x_lda 55 0), (55, x_gf 58 4 2), (58, x_ldi 59 2), (59, x_lda 60 1), (60, x_gf 63 4 2), (63, x_ldi 64 2), (64, x_ald 65 1), (65, x_ast 66 1 (fun x => vp_nar .boolean x)), (66, x_iinc 69 2 (1)), (69, x_st (x_goto 46)), (72, x_lda 73 0), (73, x_lda 74 1), (74, x_gf 77 4 3)]
set_option maxRecDepth 100000 in
set_option maxHeartbeats 4000000 in
theorem q_s9_0 (l : Launch) (s0 : State) : ∀ q ∈ q_k9_0, x_Sim (x_K s0) none l q_y9 q_c9 3 none q_w9 q.1 q.2 := by
  unfold q_k9_0
  refine List.forall_mem_cons.2 ⟨s_aload_n (k := 0) (by decide +kernel) rfl, ?_⟩
  refine List.forall_mem_cons.2 ⟨s_objInit (idx := 3) (by decide +kernel) (x_up mw_187) (x_up mw_100) (x_up mw_obj), ?_⟩
  refine List.forall_mem_cons.2 ⟨s_aload_n (k := 0) (by decide +kernel) rfl, ?_⟩
  refine List.forall_mem_cons.2 ⟨s_aload_n (k := 1) (by decide +kernel) rfl, ?_⟩
  refine List.forall_mem_cons.2 ⟨s_getfield (C := q_n4) (T := q_T4) (N := 6) (idx := 9) (ref := "ProofDesk$Form") (by decide +kernel) rfl q_in4 (by decide) (x_up mw_189) rfl, ?_⟩
  refine List.forall_mem_cons.2 ⟨s_aload_n (k := 1) (by decide +kernel) rfl, ?_⟩
  refine List.forall_mem_cons.2 ⟨s_getfield (C := q_n4) (T := q_T4) (N := 6) (idx := 22) (ref := "ProofDesk$Form") (by decide +kernel) rfl q_in4 (by decide) (x_up mw_193) rfl, ?_⟩
  refine List.forall_mem_cons.2 ⟨s_invokestatic (idx := 26) (M := 149) (ym := q_y149) (wm := q_w149) (by decide +kernel) rfl rfl (x_gdS mw_195 mw_196 mw_197 mw_194) rfl (by decide +kernel) (by decide), ?_⟩
  refine List.forall_mem_cons.2 ⟨s_putfieldF (C := q_n4) (T := q_T4) (N := 6) (idx := 9) q_t4 (by decide +kernel) rfl q_in4 q_ty4 q_nm4 (by decide) (x_up mw_189) rfl rfl (by decide +kernel) rfl, ?_⟩
  refine List.forall_mem_cons.2 ⟨s_aload_n (k := 0) (by decide +kernel) rfl, ?_⟩
  refine List.forall_mem_cons.2 ⟨s_aload_n (k := 1) (by decide +kernel) rfl, ?_⟩
  refine List.forall_mem_cons.2 ⟨s_getfield (C := q_n4) (T := q_T4) (N := 6) (idx := 15) (ref := "ProofDesk$Form") (by decide +kernel) rfl q_in4 (by decide) (x_up mw_190) rfl, ?_⟩
  refine List.forall_mem_cons.2 ⟨s_aload_n (k := 1) (by decide +kernel) rfl, ?_⟩
  refine List.forall_mem_cons.2 ⟨s_getfield (C := q_n4) (T := q_T4) (N := 6) (idx := 32) (ref := "ProofDesk$Form") (by decide +kernel) rfl q_in4 (by decide) (x_up mw_198) rfl, ?_⟩
  refine List.forall_mem_cons.2 ⟨s_invokestatic (idx := 26) (M := 149) (ym := q_y149) (wm := q_w149) (by decide +kernel) rfl rfl (x_gdS mw_195 mw_196 mw_197 mw_194) rfl (by decide +kernel) (by decide), ?_⟩
  refine List.forall_mem_cons.2 ⟨s_putfieldF (C := q_n4) (T := q_T4) (N := 6) (idx := 15) q_t4 (by decide +kernel) rfl q_in4 q_ty4 q_nm4 (by decide) (x_up mw_190) rfl rfl (by decide +kernel) rfl, ?_⟩
  refine List.forall_mem_cons.2 ⟨s_aload_n (k := 0) (by decide +kernel) rfl, ?_⟩
  refine List.forall_mem_cons.2 ⟨s_aload_n (k := 1) (by decide +kernel) rfl, ?_⟩
  refine List.forall_mem_cons.2 ⟨s_getfield (C := q_n4) (T := q_T4) (N := 6) (idx := 32) (ref := "ProofDesk$Form") (by decide +kernel) rfl q_in4 (by decide) (x_up mw_198) rfl, ?_⟩
  refine List.forall_mem_cons.2 ⟨s_newarray (at0 := .boolean) (ty := .boolean) (by decide +kernel) rfl (x_up mw_191) rfl (by decide) rfl (fun _ _ h => h), ?_⟩
  refine List.forall_mem_cons.2 ⟨s_putfieldF (C := q_n4) (T := q_T4) (N := 6) (idx := 18) q_t4 (by decide +kernel) rfl q_in4 q_ty4 q_nm4 (by decide) (x_up mw_192) rfl rfl (by decide +kernel) rfl, ?_⟩
  refine List.forall_mem_cons.2 ⟨s_iconst (k := 0) (by decide +kernel) (by decide +kernel), ?_⟩
  refine List.forall_mem_cons.2 ⟨s_istore_n (k := 2) (by decide +kernel) rfl (by decide), ?_⟩
  refine List.forall_mem_cons.2 ⟨s_iload_n (k := 2) (by decide +kernel) rfl, ?_⟩
  refine List.forall_mem_cons.2 ⟨s_aload_n (k := 1) (by decide +kernel) rfl, ?_⟩
  refine List.forall_mem_cons.2 ⟨s_getfield (C := q_n4) (T := q_T4) (N := 6) (idx := 32) (ref := "ProofDesk$Form") (by decide +kernel) rfl q_in4 (by decide) (x_up mw_198) rfl, ?_⟩
  refine List.forall_mem_cons.2 ⟨s_icmp_ge (off := 21) (by decide +kernel) (by decide), ?_⟩
  refine List.forall_mem_cons.2 ⟨s_aload_n (k := 0) (by decide +kernel) rfl, ?_⟩
  refine List.forall_mem_cons.2 ⟨s_getfield (C := q_n4) (T := q_T4) (N := 6) (idx := 18) (ref := "ProofDesk$Form") (by decide +kernel) rfl q_in4 (by decide) (x_up mw_192) rfl, ?_⟩
  refine List.forall_mem_cons.2 ⟨s_iload_n (k := 2) (by decide +kernel) rfl, ?_⟩
  refine List.forall_mem_cons.2 ⟨s_aload_n (k := 1) (by decide +kernel) rfl, ?_⟩
  refine List.forall_mem_cons.2 ⟨s_getfield (C := q_n4) (T := q_T4) (N := 6) (idx := 18) (ref := "ProofDesk$Form") (by decide +kernel) rfl q_in4 (by decide) (x_up mw_192) rfl, ?_⟩
  refine List.forall_mem_cons.2 ⟨s_iload_n (k := 2) (by decide +kernel) rfl, ?_⟩
  refine List.forall_mem_cons.2 ⟨s_zald (by decide +kernel) rfl, ?_⟩
  refine List.forall_mem_cons.2 ⟨s_zast (by decide +kernel) rfl, ?_⟩
  refine List.forall_mem_cons.2 ⟨s_iinc (k := 1) (by decide +kernel) (by decide +kernel) (by decide), ?_⟩
  refine List.forall_mem_cons.2 ⟨s_goto (off := -23) (by decide +kernel) (by decide), ?_⟩
  refine List.forall_mem_cons.2 ⟨s_aload_n (k := 0) (by decide +kernel) rfl, ?_⟩
  refine List.forall_mem_cons.2 ⟨s_aload_n (k := 1) (by decide +kernel) rfl, ?_⟩
  refine List.forall_mem_cons.2 ⟨s_getfield (C := q_n4) (T := q_T4) (N := 6) (idx := 32) (ref := "ProofDesk$Form") (by decide +kernel) rfl q_in4 (by decide) (x_up mw_198) rfl, ?_⟩
  exact fun _ h => absurd h List.not_mem_nil
def q_k9_1 : List (Nat × xO) := [(77, x_pf 80 4 3 (.int)), (80, x_lda 81 0), (81, x_lda 82 1), (82, x_gf 85 4 4), (85, x_pf 88 4 4 (.int)), (88, x_rv)]
set_option maxRecDepth 100000 in
set_option maxHeartbeats 4000000 in
theorem q_s9_1 (l : Launch) (s0 : State) : ∀ q ∈ q_k9_1, x_Sim (x_K s0) none l q_y9 q_c9 3 none q_w9 q.1 q.2 := by
  unfold q_k9_1
  refine List.forall_mem_cons.2 ⟨s_putfield (C := q_n4) (T := q_T4) (N := 6) (idx := 32) (ref := "ProofDesk$Form") q_t4 (by decide +kernel) rfl q_in4 q_ty4 q_nm4 (by decide) (x_up mw_198) rfl rfl (by decide +kernel), ?_⟩
  refine List.forall_mem_cons.2 ⟨s_aload_n (k := 0) (by decide +kernel) rfl, ?_⟩
  refine List.forall_mem_cons.2 ⟨s_aload_n (k := 1) (by decide +kernel) rfl, ?_⟩
  refine List.forall_mem_cons.2 ⟨s_getfield (C := q_n4) (T := q_T4) (N := 6) (idx := 22) (ref := "ProofDesk$Form") (by decide +kernel) rfl q_in4 (by decide) (x_up mw_193) rfl, ?_⟩
  refine List.forall_mem_cons.2 ⟨s_putfield (C := q_n4) (T := q_T4) (N := 6) (idx := 22) (ref := "ProofDesk$Form") q_t4 (by decide +kernel) rfl q_in4 q_ty4 q_nm4 (by decide) (x_up mw_193) rfl rfl (by decide +kernel), ?_⟩
  refine List.forall_mem_cons.2 ⟨s_return (by decide +kernel) rfl, ?_⟩
  exact fun _ h => absurd h List.not_mem_nil
def q_k9 : List (Nat × xO) := q_k9_0 ++ q_k9_1
theorem q_s9 (l : Launch) (s0 : State) : ∀ q ∈ q_k9, x_Sim (x_K s0) none l q_y9 q_c9 3 none q_w9 q.1 q.2 := by
  intro q hq
  simp only [q_k9, List.mem_append] at hq
  rcases hq with h0 | h1
  · exact q_s9_0 l s0 q h0
  · exact q_s9_1 l s0 q h1
/-- ProofDesk$Form.clear()V -/
def q_k10_0 : List (Nat × xO) := [(0, x_lda 1 0), (1, x_st (x_push 2 (.int (0)))), (2, x_pf 5 4 3 (.int)), (5, x_lda 6 0), (6, x_st (x_push 7 (.int (0)))), (7, x_pf 10 4 4 (.int)), (10, x_rv)]
set_option maxRecDepth 100000 in
set_option maxHeartbeats 4000000 in
theorem q_s10_0 (l : Launch) (s0 : State) : ∀ q ∈ q_k10_0, x_Sim (x_K s0) none l q_y10 q_c10 1 none q_w10 q.1 q.2 := by
  unfold q_k10_0
  refine List.forall_mem_cons.2 ⟨s_aload_n (k := 0) (by decide +kernel) rfl, ?_⟩
  refine List.forall_mem_cons.2 ⟨s_iconst (k := 0) (by decide +kernel) (by decide +kernel), ?_⟩
  refine List.forall_mem_cons.2 ⟨s_putfield (C := q_n4) (T := q_T4) (N := 6) (idx := 32) (ref := "ProofDesk$Form") q_t4 (by decide +kernel) rfl q_in4 q_ty4 q_nm4 (by decide) (x_up mw_198) rfl rfl (by decide +kernel), ?_⟩
  refine List.forall_mem_cons.2 ⟨s_aload_n (k := 0) (by decide +kernel) rfl, ?_⟩
  refine List.forall_mem_cons.2 ⟨s_iconst (k := 0) (by decide +kernel) (by decide +kernel), ?_⟩
  refine List.forall_mem_cons.2 ⟨s_putfield (C := q_n4) (T := q_T4) (N := 6) (idx := 22) (ref := "ProofDesk$Form") q_t4 (by decide +kernel) rfl q_in4 q_ty4 q_nm4 (by decide) (x_up mw_193) rfl rfl (by decide +kernel), ?_⟩
  refine List.forall_mem_cons.2 ⟨s_return (by decide +kernel) rfl, ?_⟩
  exact fun _ h => absurd h List.not_mem_nil
def q_k10 : List (Nat × xO) := q_k10_0
theorem q_s10 (l : Launch) (s0 : State) : ∀ q ∈ q_k10, x_Sim (x_K s0) none l q_y10 q_c10 1 none q_w10 q.1 q.2 := q_s10_0 l s0
/-- ProofDesk$Form.start(I)I -/
def q_k11_0 : List (Nat × xO) := [(0, x_ldi 1 1), (1, x_st (x_ifne 8 4)), (4, x_st (x_push 5 (.int (0)))), (5, x_st (x_goto 16)), (8, x_lda 9 0), (9, x_gf 12 4 1), (12, x_ldi 13 1), (13, x_st (x_push 14 (.int (1)))), (14, x_st (x_bin 15 (fun a b => a - b))), (15, x_ald 16 0), (16, x_ri (.int))]
set_option maxRecDepth 100000 in
set_option maxHeartbeats 4000000 in
theorem q_s11_0 (l : Launch) (s0 : State) : ∀ q ∈ q_k11_0, x_Sim (x_K s0) none l q_y11 q_c11 2 (some .int) q_w11 q.1 q.2 := by
  unfold q_k11_0
  refine List.forall_mem_cons.2 ⟨s_iload_n (k := 1) (by decide +kernel) rfl, ?_⟩
  refine List.forall_mem_cons.2 ⟨s_ifne (off := 7) (by decide +kernel) (by decide), ?_⟩
  refine List.forall_mem_cons.2 ⟨s_iconst (k := 0) (by decide +kernel) (by decide +kernel), ?_⟩
  refine List.forall_mem_cons.2 ⟨s_goto (off := 11) (by decide +kernel) (by decide), ?_⟩
  refine List.forall_mem_cons.2 ⟨s_aload_n (k := 0) (by decide +kernel) rfl, ?_⟩
  refine List.forall_mem_cons.2 ⟨s_getfield (C := q_n4) (T := q_T4) (N := 6) (idx := 15) (ref := "ProofDesk$Form") (by decide +kernel) rfl q_in4 (by decide) (x_up mw_190) rfl, ?_⟩
  refine List.forall_mem_cons.2 ⟨s_iload_n (k := 1) (by decide +kernel) rfl, ?_⟩
  refine List.forall_mem_cons.2 ⟨s_iconst (k := 1) (by decide +kernel) (by decide +kernel), ?_⟩
  refine List.forall_mem_cons.2 ⟨s_isub (by decide +kernel), ?_⟩
  refine List.forall_mem_cons.2 ⟨s_iald (by decide +kernel) rfl, ?_⟩
  refine List.forall_mem_cons.2 ⟨s_ireturn (ty := .int) (by decide +kernel) rfl, ?_⟩
  exact fun _ h => absurd h List.not_mem_nil
def q_k11 : List (Nat × xO) := q_k11_0
theorem q_s11 (l : Launch) (s0 : State) : ∀ q ∈ q_k11, x_Sim (x_K s0) none l q_y11 q_c11 2 (some .int) q_w11 q.1 q.2 := q_s11_0 l s0
/-- ProofDesk$Form.hasLiteral(I)Z -/
def q_k12_0 : List (Nat × xO) := [(0, x_ldi 1 1), (1, x_st (x_iflt 16 4)), (4, x_ldi 5 1), (5, x_lda 6 0), (6, x_gf 9 4 3), (9, x_st (x_icge 16 12)), (12, x_st (x_push 13 (.int (1)))), (13, x_st (x_goto 17)), (16, x_st (x_push 17 (.int (0)))), (17, x_ri (.boolean))]
set_option maxRecDepth 100000 in
set_option maxHeartbeats 4000000 in
theorem q_s12_0 (l : Launch) (s0 : State) : ∀ q ∈ q_k12_0, x_Sim (x_K s0) none l q_y12 q_c12 2 (some .boolean) q_w12 q.1 q.2 := by
  unfold q_k12_0
  refine List.forall_mem_cons.2 ⟨s_iload_n (k := 1) (by decide +kernel) rfl, ?_⟩
  refine List.forall_mem_cons.2 ⟨s_iflt (off := 15) (by decide +kernel) (by decide), ?_⟩
  refine List.forall_mem_cons.2 ⟨s_iload_n (k := 1) (by decide +kernel) rfl, ?_⟩
  refine List.forall_mem_cons.2 ⟨s_aload_n (k := 0) (by decide +kernel) rfl, ?_⟩
  refine List.forall_mem_cons.2 ⟨s_getfield (C := q_n4) (T := q_T4) (N := 6) (idx := 32) (ref := "ProofDesk$Form") (by decide +kernel) rfl q_in4 (by decide) (x_up mw_198) rfl, ?_⟩
  refine List.forall_mem_cons.2 ⟨s_icmp_ge (off := 7) (by decide +kernel) (by decide), ?_⟩
  refine List.forall_mem_cons.2 ⟨s_iconst (k := 1) (by decide +kernel) (by decide +kernel), ?_⟩
  refine List.forall_mem_cons.2 ⟨s_goto (off := 4) (by decide +kernel) (by decide), ?_⟩
  refine List.forall_mem_cons.2 ⟨s_iconst (k := 0) (by decide +kernel) (by decide +kernel), ?_⟩
  refine List.forall_mem_cons.2 ⟨s_ireturn (ty := .boolean) (by decide +kernel) rfl, ?_⟩
  exact fun _ h => absurd h List.not_mem_nil
def q_k12 : List (Nat × xO) := q_k12_0
theorem q_s12 (l : Launch) (s0 : State) : ∀ q ∈ q_k12, x_Sim (x_K s0) none l q_y12 q_c12 2 (some .boolean) q_w12 q.1 q.2 := q_s12_0 l s0
/-- ProofDesk$Form.isEquation(I)Z -/
def q_k13_0 : List (Nat × xO) := [(0, x_lda 1 0), (1, x_gf 4 4 0), (4, x_lda 5 0), (5, x_ldi 6 1), (6, x_cv 9 11 2 4), (9, x_ald 10 0), (10, x_st (x_push 12 (.int (106)))), (12, x_st (x_icne 19 15)), (15, x_st (x_push 16 (.int (1)))), (16, x_st (x_goto 20)), (19, x_st (x_push 20 (.int (0)))), (20, x_ri (.boolean))]
set_option maxRecDepth 100000 in
set_option maxHeartbeats 4000000 in
theorem q_s13_0 (l : Launch) (s0 : State) : ∀ q ∈ q_k13_0, x_Sim (x_K s0) none l q_y13 q_c13 2 (some .boolean) q_w13 q.1 q.2 := by
  unfold q_k13_0
  refine List.forall_mem_cons.2 ⟨s_aload_n (k := 0) (by decide +kernel) rfl, ?_⟩
  refine List.forall_mem_cons.2 ⟨s_getfield (C := q_n4) (T := q_T4) (N := 6) (idx := 9) (ref := "ProofDesk$Form") (by decide +kernel) rfl q_in4 (by decide) (x_up mw_189) rfl, ?_⟩
  refine List.forall_mem_cons.2 ⟨s_aload_n (k := 0) (by decide +kernel) rfl, ?_⟩
  refine List.forall_mem_cons.2 ⟨s_iload_n (k := 1) (by decide +kernel) rfl, ?_⟩
  refine List.forall_mem_cons.2 ⟨s_invokevirtual (idx := 35) (M := 11) (k := 1) (ci := 4) (C := q_n4) (T := q_T4) (N := 6) (ym := q_y11) (wm := q_w11) (by decide +kernel) rfl rfl rfl (x_gdV mw_200 mw_201 mw_202 mw_203 mw_199) rfl (by decide +kernel) (by decide), ?_⟩
  refine List.forall_mem_cons.2 ⟨s_iald (by decide +kernel) rfl, ?_⟩
  refine List.forall_mem_cons.2 ⟨s_bipush (k := 106) (by decide +kernel) (by decide +kernel), ?_⟩
  refine List.forall_mem_cons.2 ⟨s_icmp_ne (off := 7) (by decide +kernel) (by decide), ?_⟩
  refine List.forall_mem_cons.2 ⟨s_iconst (k := 1) (by decide +kernel) (by decide +kernel), ?_⟩
  refine List.forall_mem_cons.2 ⟨s_goto (off := 4) (by decide +kernel) (by decide), ?_⟩
  refine List.forall_mem_cons.2 ⟨s_iconst (k := 0) (by decide +kernel) (by decide +kernel), ?_⟩
  refine List.forall_mem_cons.2 ⟨s_ireturn (ty := .boolean) (by decide +kernel) rfl, ?_⟩
  exact fun _ h => absurd h List.not_mem_nil
def q_k13 : List (Nat × xO) := q_k13_0
theorem q_s13 (l : Launch) (s0 : State) : ∀ q ∈ q_k13, x_Sim (x_K s0) none l q_y13 q_c13 2 (some .boolean) q_w13 q.1 q.2 := q_s13_0 l s0
/-- ProofDesk$Form.hasFunction(II)Z -/
def q_k14_0 : List (Nat × xO) := [(0, x_lda 1 0), (1, x_ldi 2 1), (2, x_cv 5 11 2 4), (5, x_st (x_push 6 (.int (1)))), (6, x_st (x_bin 7 (fun a b => a + b))), (7, x_sti 8 3), (8, x_ldi 9 2), (9, x_st (x_iflt 42 12)), (12, x_ldi 13 2), (13, x_lda 14 0), (14, x_gf 17 4 1), (17, x_ldi 18 1), (18, x_ald 19 0), (19, x_ldi 20 3), (20, x_st (x_bin 21 (fun a b => a - b))), (21, x_st (x_icge 42 24)), (24, x_lda 25 0), (25, x_gf 28 4 0), (28, x_ldi 29 3), (29, x_ldi 30 2), (30, x_st (x_bin 31 (fun a b => a + b))), (31, x_ald 32 0), (32, x_cl_ 35 2 1), (35, x_st (x_ifne 42 38)), (38, x_st (x_push 39 (.int (1)))), (39, x_st (x_goto 43)), (42, x_st (x_push 43 (.int (0)))), (43, x_ri (.boolean))]
set_option maxRecDepth 100000 in
set_option maxHeartbeats 4000000 in
theorem q_s14_0 (l : Launch) (s0 : State) : ∀ q ∈ q_k14_0, x_Sim (x_K s0) none l q_y14 q_c14 4 (some .boolean) q_w14 q.1 q.2 := by
  unfold q_k14_0
  refine List.forall_mem_cons.2 ⟨s_aload_n (k := 0) (by decide +kernel) rfl, ?_⟩
  refine List.forall_mem_cons.2 ⟨s_iload_n (k := 1) (by decide +kernel) rfl, ?_⟩
  refine List.forall_mem_cons.2 ⟨s_invokevirtual (idx := 35) (M := 11) (k := 1) (ci := 4) (C := q_n4) (T := q_T4) (N := 6) (ym := q_y11) (wm := q_w11) (by decide +kernel) rfl rfl rfl (x_gdV mw_200 mw_201 mw_202 mw_203 mw_199) rfl (by decide +kernel) (by decide), ?_⟩
  refine List.forall_mem_cons.2 ⟨s_iconst (k := 1) (by decide +kernel) (by decide +kernel), ?_⟩
  refine List.forall_mem_cons.2 ⟨s_iadd (by decide +kernel), ?_⟩
  refine List.forall_mem_cons.2 ⟨s_istore_n (k := 3) (by decide +kernel) rfl (by decide), ?_⟩
  refine List.forall_mem_cons.2 ⟨s_iload_n (k := 2) (by decide +kernel) rfl, ?_⟩
  refine List.forall_mem_cons.2 ⟨s_iflt (off := 33) (by decide +kernel) (by decide), ?_⟩
  refine List.forall_mem_cons.2 ⟨s_iload_n (k := 2) (by decide +kernel) rfl, ?_⟩
  refine List.forall_mem_cons.2 ⟨s_aload_n (k := 0) (by decide +kernel) rfl, ?_⟩
  refine List.forall_mem_cons.2 ⟨s_getfield (C := q_n4) (T := q_T4) (N := 6) (idx := 15) (ref := "ProofDesk$Form") (by decide +kernel) rfl q_in4 (by decide) (x_up mw_190) rfl, ?_⟩
  refine List.forall_mem_cons.2 ⟨s_iload_n (k := 1) (by decide +kernel) rfl, ?_⟩
  refine List.forall_mem_cons.2 ⟨s_iald (by decide +kernel) rfl, ?_⟩
  refine List.forall_mem_cons.2 ⟨s_iload_n (k := 3) (by decide +kernel) rfl, ?_⟩
  refine List.forall_mem_cons.2 ⟨s_isub (by decide +kernel), ?_⟩
  refine List.forall_mem_cons.2 ⟨s_icmp_ge (off := 21) (by decide +kernel) (by decide), ?_⟩
  refine List.forall_mem_cons.2 ⟨s_aload_n (k := 0) (by decide +kernel) rfl, ?_⟩
  refine List.forall_mem_cons.2 ⟨s_getfield (C := q_n4) (T := q_T4) (N := 6) (idx := 9) (ref := "ProofDesk$Form") (by decide +kernel) rfl q_in4 (by decide) (x_up mw_189) rfl, ?_⟩
  refine List.forall_mem_cons.2 ⟨s_iload_n (k := 3) (by decide +kernel) rfl, ?_⟩
  refine List.forall_mem_cons.2 ⟨s_iload_n (k := 2) (by decide +kernel) rfl, ?_⟩
  refine List.forall_mem_cons.2 ⟨s_iadd (by decide +kernel), ?_⟩
  refine List.forall_mem_cons.2 ⟨s_iald (by decide +kernel) rfl, ?_⟩
  refine List.forall_mem_cons.2 ⟨s_invokestatic (idx := 41) (M := 2) (ym := q_y2) (wm := q_w2) (by decide +kernel) rfl rfl (x_gdS mw_204 mw_174 mw_175 mw_172) rfl (by decide +kernel) (by decide), ?_⟩
  refine List.forall_mem_cons.2 ⟨s_ifne (off := 7) (by decide +kernel) (by decide), ?_⟩
  refine List.forall_mem_cons.2 ⟨s_iconst (k := 1) (by decide +kernel) (by decide +kernel), ?_⟩
  refine List.forall_mem_cons.2 ⟨s_goto (off := 4) (by decide +kernel) (by decide), ?_⟩
  refine List.forall_mem_cons.2 ⟨s_iconst (k := 0) (by decide +kernel) (by decide +kernel), ?_⟩
  refine List.forall_mem_cons.2 ⟨s_ireturn (ty := .boolean) (by decide +kernel) rfl, ?_⟩
  exact fun _ h => absurd h List.not_mem_nil
def q_k14 : List (Nat × xO) := q_k14_0
theorem q_s14 (l : Launch) (s0 : State) : ∀ q ∈ q_k14, x_Sim (x_K s0) none l q_y14 q_c14 4 (some .boolean) q_w14 q.1 q.2 := q_s14_0 l s0
/-- ProofDesk$Form.open(Z)V -/
def q_k15_0 : List (Nat × xO) := [(0, x_lda 1 0), (1, x_lda 2 0), (2, x_gf 5 4 4), (5, x_pf 8 4 5 (.int)), (8, x_lda 9 0), (9, x_gf 12 4 3), (12, x_lda 13 0), (13, x_gf 16 4 2), (16, x_aln 17 6), (17, x_st (x_icge 30 20)), (20, x_lda 21 0), (21, x_gf 24 4 2), (24, x_lda 25 0), (25, x_gf 28 4 3), (28, x_ldi 29 1), (29, x_ast 30 1 (fun x => vp_nar .boolean x)), (30, x_rv)]
set_option maxRecDepth 100000 in
set_option maxHeartbeats 4000000 in
theorem q_s15_0 (l : Launch) (s0 : State) : ∀ q ∈ q_k15_0, x_Sim (x_K s0) none l q_y15 q_c15 2 none q_w15 q.1 q.2 := by
  unfold q_k15_0
  refine List.forall_mem_cons.2 ⟨s_aload_n (k := 0) (by decide +kernel) rfl, ?_⟩
  refine List.forall_mem_cons.2 ⟨s_aload_n (k := 0) (by decide +kernel) rfl, ?_⟩
  refine List.forall_mem_cons.2 ⟨s_getfield (C := q_n4) (T := q_T4) (N := 6) (idx := 22) (ref := "ProofDesk$Form") (by decide +kernel) rfl q_in4 (by decide) (x_up mw_193) rfl, ?_⟩
  refine List.forall_mem_cons.2 ⟨s_putfield (C := q_n4) (T := q_T4) (N := 6) (idx := 45) (ref := "ProofDesk$Form") q_t4 (by decide +kernel) rfl q_in4 q_ty4 q_nm4 (by decide) (x_up mw_205) rfl rfl (by decide +kernel), ?_⟩
  refine List.forall_mem_cons.2 ⟨s_aload_n (k := 0) (by decide +kernel) rfl, ?_⟩
  refine List.forall_mem_cons.2 ⟨s_getfield (C := q_n4) (T := q_T4) (N := 6) (idx := 32) (ref := "ProofDesk$Form") (by decide +kernel) rfl q_in4 (by decide) (x_up mw_198) rfl, ?_⟩
  refine List.forall_mem_cons.2 ⟨s_aload_n (k := 0) (by decide +kernel) rfl, ?_⟩
  refine List.forall_mem_cons.2 ⟨s_getfield (C := q_n4) (T := q_T4) (N := 6) (idx := 18) (ref := "ProofDesk$Form") (by decide +kernel) rfl q_in4 (by decide) (x_up mw_192) rfl, ?_⟩
  refine List.forall_mem_cons.2 ⟨s_alen (by decide +kernel) 6 rfl, ?_⟩
  refine List.forall_mem_cons.2 ⟨s_icmp_ge (off := 13) (by decide +kernel) (by decide), ?_⟩
  refine List.forall_mem_cons.2 ⟨s_aload_n (k := 0) (by decide +kernel) rfl, ?_⟩
  refine List.forall_mem_cons.2 ⟨s_getfield (C := q_n4) (T := q_T4) (N := 6) (idx := 18) (ref := "ProofDesk$Form") (by decide +kernel) rfl q_in4 (by decide) (x_up mw_192) rfl, ?_⟩
  refine List.forall_mem_cons.2 ⟨s_aload_n (k := 0) (by decide +kernel) rfl, ?_⟩
  refine List.forall_mem_cons.2 ⟨s_getfield (C := q_n4) (T := q_T4) (N := 6) (idx := 32) (ref := "ProofDesk$Form") (by decide +kernel) rfl q_in4 (by decide) (x_up mw_198) rfl, ?_⟩
  refine List.forall_mem_cons.2 ⟨s_iload_n (k := 1) (by decide +kernel) rfl, ?_⟩
  refine List.forall_mem_cons.2 ⟨s_zast (by decide +kernel) rfl, ?_⟩
  refine List.forall_mem_cons.2 ⟨s_return (by decide +kernel) rfl, ?_⟩
  exact fun _ h => absurd h List.not_mem_nil
def q_k15 : List (Nat × xO) := q_k15_0
theorem q_s15 (l : Launch) (s0 : State) : ∀ q ∈ q_k15, x_Sim (x_K s0) none l q_y15 q_c15 2 none q_w15 q.1 q.2 := q_s15_0 l s0
/-- ProofDesk$Form.put(I)Z -/
def q_k16_0 : List (Nat × xO) := [(0, x_lda 1 0), (1, x_gf 4 4 4), (4, x_lda 5 0), (5, x_gf 8 4 0), (8, x_aln 9 6), (9, x_st (x_icge 26 12)), (12, x_lda 13 0), (13, x_gf 16 4 4), (16, x_lda 17 0), (17, x_gf 20 4 5), (20, x_st (x_bin 21 (fun a b => a - b))), (21, x_st (x_push 23 (.int (40)))), (23, x_st (x_iclt 28 26)), (26, x_st (x_push 27 (.int (0)))), (27, x_ri (.boolean)), (28, x_lda 29 0), (29, x_gf 32 4 0), (32, x_lda 33 0), (33, x_gf 36 4 4), (36, x_ldi 37 1), (37, x_ast 38 0 (fun x => x)), (38, x_lda 39 0), (39, x_st (x_dup 40)), (40, x_gf 43 4 4), (43, x_st (x_push 44 (.int (1)))), (44, x_st (x_bin 45 (fun a b => a + b))), (45, x_pf 48 4 4 (.int)), (48, x_st (x_push 49 (.int (1)))), (49, x_ri (.boolean))]
set_option maxRecDepth 100000 in
set_option maxHeartbeats 4000000 in
theorem q_s16_0 (l : Launch) (s0 : State) : ∀ q ∈ q_k16_0, x_Sim (x_K s0) none l q_y16 q_c16 2 (some .boolean) q_w16 q.1 q.2 := by
  unfold q_k16_0
  refine List.forall_mem_cons.2 ⟨s_aload_n (k := 0) (by decide +kernel) rfl, ?_⟩
  refine List.forall_mem_cons.2 ⟨s_getfield (C := q_n4) (T := q_T4) (N := 6) (idx := 22) (ref := "ProofDesk$Form") (by decide +kernel) rfl q_in4 (by decide) (x_up mw_193) rfl, ?_⟩
  refine List.forall_mem_cons.2 ⟨s_aload_n (k := 0) (by decide +kernel) rfl, ?_⟩
  refine List.forall_mem_cons.2 ⟨s_getfield (C := q_n4) (T := q_T4) (N := 6) (idx := 9) (ref := "ProofDesk$Form") (by decide +kernel) rfl q_in4 (by decide) (x_up mw_189) rfl, ?_⟩
  refine List.forall_mem_cons.2 ⟨s_alen (by decide +kernel) 6 rfl, ?_⟩
  refine List.forall_mem_cons.2 ⟨s_icmp_ge (off := 17) (by decide +kernel) (by decide), ?_⟩
  refine List.forall_mem_cons.2 ⟨s_aload_n (k := 0) (by decide +kernel) rfl, ?_⟩
  refine List.forall_mem_cons.2 ⟨s_getfield (C := q_n4) (T := q_T4) (N := 6) (idx := 22) (ref := "ProofDesk$Form") (by decide +kernel) rfl q_in4 (by decide) (x_up mw_193) rfl, ?_⟩
  refine List.forall_mem_cons.2 ⟨s_aload_n (k := 0) (by decide +kernel) rfl, ?_⟩
  refine List.forall_mem_cons.2 ⟨s_getfield (C := q_n4) (T := q_T4) (N := 6) (idx := 45) (ref := "ProofDesk$Form") (by decide +kernel) rfl q_in4 (by decide) (x_up mw_205) rfl, ?_⟩
  refine List.forall_mem_cons.2 ⟨s_isub (by decide +kernel), ?_⟩
  refine List.forall_mem_cons.2 ⟨s_bipush (k := 40) (by decide +kernel) (by decide +kernel), ?_⟩
  refine List.forall_mem_cons.2 ⟨s_icmp_lt (off := 5) (by decide +kernel) (by decide), ?_⟩
  refine List.forall_mem_cons.2 ⟨s_iconst (k := 0) (by decide +kernel) (by decide +kernel), ?_⟩
  refine List.forall_mem_cons.2 ⟨s_ireturn (ty := .boolean) (by decide +kernel) rfl, ?_⟩
  refine List.forall_mem_cons.2 ⟨s_aload_n (k := 0) (by decide +kernel) rfl, ?_⟩
  refine List.forall_mem_cons.2 ⟨s_getfield (C := q_n4) (T := q_T4) (N := 6) (idx := 9) (ref := "ProofDesk$Form") (by decide +kernel) rfl q_in4 (by decide) (x_up mw_189) rfl, ?_⟩
  refine List.forall_mem_cons.2 ⟨s_aload_n (k := 0) (by decide +kernel) rfl, ?_⟩
  refine List.forall_mem_cons.2 ⟨s_getfield (C := q_n4) (T := q_T4) (N := 6) (idx := 22) (ref := "ProofDesk$Form") (by decide +kernel) rfl q_in4 (by decide) (x_up mw_193) rfl, ?_⟩
  refine List.forall_mem_cons.2 ⟨s_iload_n (k := 1) (by decide +kernel) rfl, ?_⟩
  refine List.forall_mem_cons.2 ⟨s_iast (by decide +kernel) rfl, ?_⟩
  refine List.forall_mem_cons.2 ⟨s_aload_n (k := 0) (by decide +kernel) rfl, ?_⟩
  refine List.forall_mem_cons.2 ⟨s_dup (by decide +kernel), ?_⟩
  refine List.forall_mem_cons.2 ⟨s_getfield (C := q_n4) (T := q_T4) (N := 6) (idx := 22) (ref := "ProofDesk$Form") (by decide +kernel) rfl q_in4 (by decide) (x_up mw_193) rfl, ?_⟩
  refine List.forall_mem_cons.2 ⟨s_iconst (k := 1) (by decide +kernel) (by decide +kernel), ?_⟩
  refine List.forall_mem_cons.2 ⟨s_iadd (by decide +kernel), ?_⟩
  refine List.forall_mem_cons.2 ⟨s_putfield (C := q_n4) (T := q_T4) (N := 6) (idx := 22) (ref := "ProofDesk$Form") q_t4 (by decide +kernel) rfl q_in4 q_ty4 q_nm4 (by decide) (x_up mw_193) rfl rfl (by decide +kernel), ?_⟩
  refine List.forall_mem_cons.2 ⟨s_iconst (k := 1) (by decide +kernel) (by decide +kernel), ?_⟩
  refine List.forall_mem_cons.2 ⟨s_ireturn (ty := .boolean) (by decide +kernel) rfl, ?_⟩
  exact fun _ h => absurd h List.not_mem_nil
def q_k16 : List (Nat × xO) := q_k16_0
theorem q_s16 (l : Launch) (s0 : State) : ∀ q ∈ q_k16, x_Sim (x_K s0) none l q_y16 q_c16 2 (some .boolean) q_w16 q.1 q.2 := q_s16_0 l s0
/-- ProofDesk$Form.close()Z -/
def q_k17_0 : List (Nat × xO) := [(0, x_lda 1 0), (1, x_gf 4 4 3), (4, x_st (x_push 6 (.int (6)))), (6, x_st (x_icle 11 9)), (9, x_st (x_push 10 (.int (0)))), (10, x_ri (.boolean)), (11, x_lda 12 0), (12, x_gf 15 4 1), (15, x_lda 16 0), (16, x_gf 19 4 3), (19, x_lda 20 0), (20, x_gf 23 4 4), (23, x_ast 24 0 (fun x => x)), (24, x_st (x_push 25 (.int (0)))), (25, x_sti 26 1), (26, x_ldi 27 1), (27, x_lda 28 0), (28, x_gf 31 4 3), (31, x_st (x_icge 80 34)), (34, x_lda 35 0), (35, x_gf 38 4 2), (38, x_ldi 39 1), (39, x_ald 40 1), (40, x_lda 41 0), (41, x_gf 44 4 2), (44, x_lda 45 0), (45, x_gf 48 4 3), (48, x_ald 49 1), (49, x_st (x_icne 74 52)), (52, x_lda 53 0), (53, x_ldi 54 1), (54, x_lda 55 0), (55, x_gf 58 4 3), (58, x_cv 61 18 3 4), (61, x_st (x_ifeq 74 64)), (64, x_lda 65 0), (65, x_lda 66 0), (66, x_gf 69 4 5), (69, x_pf 72 4 4 (.int)), (72, x_st (x_push 73 (.int (1))))]
set_option maxRecDepth 100000 in
set_option maxHeartbeats 4000000 in
theorem q_s17_0 (l : Launch) (s0 : State) : ∀ q ∈ q_k17_0, x_Sim (x_K s0) none l q_y17 q_c17 2 (some .boolean) q_w17 q.1 q.2 := by
  unfold q_k17_0
  refine List.forall_mem_cons.2 ⟨s_aload_n (k := 0) (by decide +kernel) rfl, ?_⟩
  refine List.forall_mem_cons.2 ⟨s_getfield (C := q_n4) (T := q_T4) (N := 6) (idx := 32) (ref := "ProofDesk$Form") (by decide +kernel) rfl q_in4 (by decide) (x_up mw_198) rfl, ?_⟩
  refine List.forall_mem_cons.2 ⟨s_bipush (k := 6) (by decide +kernel) (by decide +kernel), ?_⟩
  refine List.forall_mem_cons.2 ⟨s_icmp_le (off := 5) (by decide +kernel) (by decide), ?_⟩
  refine List.forall_mem_cons.2 ⟨s_iconst (k := 0) (by decide +kernel) (by decide +kernel), ?_⟩
  refine List.forall_mem_cons.2 ⟨s_ireturn (ty := .boolean) (by decide +kernel) rfl, ?_⟩
  refine List.forall_mem_cons.2 ⟨s_aload_n (k := 0) (by decide +kernel) rfl, ?_⟩
  refine List.forall_mem_cons.2 ⟨s_getfield (C := q_n4) (T := q_T4) (N := 6) (idx := 15) (ref := "ProofDesk$Form") (by decide +kernel) rfl q_in4 (by decide) (x_up mw_190) rfl, ?_⟩
  refine List.forall_mem_cons.2 ⟨s_aload_n (k := 0) (by decide +kernel) rfl, ?_⟩
  refine List.forall_mem_cons.2 ⟨s_getfield (C := q_n4) (T := q_T4) (N := 6) (idx := 32) (ref := "ProofDesk$Form") (by decide +kernel) rfl q_in4 (by decide) (x_up mw_198) rfl, ?_⟩
  refine List.forall_mem_cons.2 ⟨s_aload_n (k := 0) (by decide +kernel) rfl, ?_⟩
  refine List.forall_mem_cons.2 ⟨s_getfield (C := q_n4) (T := q_T4) (N := 6) (idx := 22) (ref := "ProofDesk$Form") (by decide +kernel) rfl q_in4 (by decide) (x_up mw_193) rfl, ?_⟩
  refine List.forall_mem_cons.2 ⟨s_iast (by decide +kernel) rfl, ?_⟩
  refine List.forall_mem_cons.2 ⟨s_iconst (k := 0) (by decide +kernel) (by decide +kernel), ?_⟩
  refine List.forall_mem_cons.2 ⟨s_istore_n (k := 1) (by decide +kernel) rfl (by decide), ?_⟩
  refine List.forall_mem_cons.2 ⟨s_iload_n (k := 1) (by decide +kernel) rfl, ?_⟩
  refine List.forall_mem_cons.2 ⟨s_aload_n (k := 0) (by decide +kernel) rfl, ?_⟩
  refine List.forall_mem_cons.2 ⟨s_getfield (C := q_n4) (T := q_T4) (N := 6) (idx := 32) (ref := "ProofDesk$Form") (by decide +kernel) rfl q_in4 (by decide) (x_up mw_198) rfl, ?_⟩
  refine List.forall_mem_cons.2 ⟨s_icmp_ge (off := 49) (by decide +kernel) (by decide), ?_⟩
  refine List.forall_mem_cons.2 ⟨s_aload_n (k := 0) (by decide +kernel) rfl, ?_⟩
  refine List.forall_mem_cons.2 ⟨s_getfield (C := q_n4) (T := q_T4) (N := 6) (idx := 18) (ref := "ProofDesk$Form") (by decide +kernel) rfl q_in4 (by decide) (x_up mw_192) rfl, ?_⟩
  refine List.forall_mem_cons.2 ⟨s_iload_n (k := 1) (by decide +kernel) rfl, ?_⟩
  refine List.forall_mem_cons.2 ⟨s_zald (by decide +kernel) rfl, ?_⟩
  refine List.forall_mem_cons.2 ⟨s_aload_n (k := 0) (by decide +kernel) rfl, ?_⟩
  refine List.forall_mem_cons.2 ⟨s_getfield (C := q_n4) (T := q_T4) (N := 6) (idx := 18) (ref := "ProofDesk$Form") (by decide +kernel) rfl q_in4 (by decide) (x_up mw_192) rfl, ?_⟩
  refine List.forall_mem_cons.2 ⟨s_aload_n (k := 0) (by decide +kernel) rfl, ?_⟩
  refine List.forall_mem_cons.2 ⟨s_getfield (C := q_n4) (T := q_T4) (N := 6) (idx := 32) (ref := "ProofDesk$Form") (by decide +kernel) rfl q_in4 (by decide) (x_up mw_198) rfl, ?_⟩
  refine List.forall_mem_cons.2 ⟨s_zald (by decide +kernel) rfl, ?_⟩
  refine List.forall_mem_cons.2 ⟨s_icmp_ne (off := 25) (by decide +kernel) (by decide), ?_⟩
  refine List.forall_mem_cons.2 ⟨s_aload_n (k := 0) (by decide +kernel) rfl, ?_⟩
  refine List.forall_mem_cons.2 ⟨s_iload_n (k := 1) (by decide +kernel) rfl, ?_⟩
  refine List.forall_mem_cons.2 ⟨s_aload_n (k := 0) (by decide +kernel) rfl, ?_⟩
  refine List.forall_mem_cons.2 ⟨s_getfield (C := q_n4) (T := q_T4) (N := 6) (idx := 32) (ref := "ProofDesk$Form") (by decide +kernel) rfl q_in4 (by decide) (x_up mw_198) rfl, ?_⟩
  refine List.forall_mem_cons.2 ⟨s_invokevirtual (idx := 48) (M := 18) (k := 2) (ci := 4) (C := q_n4) (T := q_T4) (N := 6) (ym := q_y18) (wm := q_w18) (by decide +kernel) rfl rfl rfl (x_gdV mw_207 mw_208 mw_209 mw_203 mw_206) rfl (by decide +kernel) (by decide), ?_⟩
  refine List.forall_mem_cons.2 ⟨s_ifeq (off := 13) (by decide +kernel) (by decide), ?_⟩
  refine List.forall_mem_cons.2 ⟨s_aload_n (k := 0) (by decide +kernel) rfl, ?_⟩
  refine List.forall_mem_cons.2 ⟨s_aload_n (k := 0) (by decide +kernel) rfl, ?_⟩
  refine List.forall_mem_cons.2 ⟨s_getfield (C := q_n4) (T := q_T4) (N := 6) (idx := 45) (ref := "ProofDesk$Form") (by decide +kernel) rfl q_in4 (by decide) (x_up mw_205) rfl, ?_⟩
  refine List.forall_mem_cons.2 ⟨s_putfield (C := q_n4) (T := q_T4) (N := 6) (idx := 22) (ref := "ProofDesk$Form") q_t4 (by decide +kernel) rfl q_in4 q_ty4 q_nm4 (by decide) (x_up mw_193) rfl rfl (by decide +kernel), ?_⟩
  refine List.forall_mem_cons.2 ⟨s_iconst (k := 1) (by decide +kernel) (by decide +kernel), ?_⟩
  exact fun _ h => absurd h List.not_mem_nil
def q_k17_1 : List (Nat × xO) := [(73, x_ri (.boolean)), (74, x_iinc 77 1 (1)), (77, x_st (x_goto 26)), (80, x_lda 81 0), (81, x_st (x_dup 82)), (82, x_gf 85 4 3), (85, x_st (x_push 86 (.int (1)))), (86, x_st (x_bin 87 (fun a b => a + b))), (87, x_pf 90 4 3 (.int)), (90, x_lda 91 0), (91, x_gf 94 4 3), (94, x_st (x_push 96 (.int (6)))), (96, x_st (x_icgt 112 99)), (99, x_lda 100 0), (100, x_gf 103 4 4), (103, x_st (x_push 105 (.int (40)))), (105, x_st (x_icgt 112 108)), (108, x_st (x_push 109 (.int (1)))), (109, x_st (x_goto 113)), (112, x_st (x_push 113 (.int (0)))), (113, x_ri (.boolean))]
set_option maxRecDepth 100000 in
set_option maxHeartbeats 4000000 in
theorem q_s17_1 (l : Launch) (s0 : State) : ∀ q ∈ q_k17_1, x_Sim (x_K s0) none l q_y17 q_c17 2 (some .boolean) q_w17 q.1 q.2 := by
  unfold q_k17_1
  refine List.forall_mem_cons.2 ⟨s_ireturn (ty := .boolean) (by decide +kernel) rfl, ?_⟩
  refine List.forall_mem_cons.2 ⟨s_iinc (k := 1) (by decide +kernel) (by decide +kernel) (by decide), ?_⟩
  refine List.forall_mem_cons.2 ⟨s_goto (off := -51) (by decide +kernel) (by decide), ?_⟩
  refine List.forall_mem_cons.2 ⟨s_aload_n (k := 0) (by decide +kernel) rfl, ?_⟩
  refine List.forall_mem_cons.2 ⟨s_dup (by decide +kernel), ?_⟩
  refine List.forall_mem_cons.2 ⟨s_getfield (C := q_n4) (T := q_T4) (N := 6) (idx := 32) (ref := "ProofDesk$Form") (by decide +kernel) rfl q_in4 (by decide) (x_up mw_198) rfl, ?_⟩
  refine List.forall_mem_cons.2 ⟨s_iconst (k := 1) (by decide +kernel) (by decide +kernel), ?_⟩
  refine List.forall_mem_cons.2 ⟨s_iadd (by decide +kernel), ?_⟩
  refine List.forall_mem_cons.2 ⟨s_putfield (C := q_n4) (T := q_T4) (N := 6) (idx := 32) (ref := "ProofDesk$Form") q_t4 (by decide +kernel) rfl q_in4 q_ty4 q_nm4 (by decide) (x_up mw_198) rfl rfl (by decide +kernel), ?_⟩
  refine List.forall_mem_cons.2 ⟨s_aload_n (k := 0) (by decide +kernel) rfl, ?_⟩
  refine List.forall_mem_cons.2 ⟨s_getfield (C := q_n4) (T := q_T4) (N := 6) (idx := 32) (ref := "ProofDesk$Form") (by decide +kernel) rfl q_in4 (by decide) (x_up mw_198) rfl, ?_⟩
  refine List.forall_mem_cons.2 ⟨s_bipush (k := 6) (by decide +kernel) (by decide +kernel), ?_⟩
  refine List.forall_mem_cons.2 ⟨s_icmp_gt (off := 16) (by decide +kernel) (by decide), ?_⟩
  refine List.forall_mem_cons.2 ⟨s_aload_n (k := 0) (by decide +kernel) rfl, ?_⟩
  refine List.forall_mem_cons.2 ⟨s_getfield (C := q_n4) (T := q_T4) (N := 6) (idx := 22) (ref := "ProofDesk$Form") (by decide +kernel) rfl q_in4 (by decide) (x_up mw_193) rfl, ?_⟩
  refine List.forall_mem_cons.2 ⟨s_bipush (k := 40) (by decide +kernel) (by decide +kernel), ?_⟩
  refine List.forall_mem_cons.2 ⟨s_icmp_gt (off := 7) (by decide +kernel) (by decide), ?_⟩
  refine List.forall_mem_cons.2 ⟨s_iconst (k := 1) (by decide +kernel) (by decide +kernel), ?_⟩
  refine List.forall_mem_cons.2 ⟨s_goto (off := 4) (by decide +kernel) (by decide), ?_⟩
  refine List.forall_mem_cons.2 ⟨s_iconst (k := 0) (by decide +kernel) (by decide +kernel), ?_⟩
  refine List.forall_mem_cons.2 ⟨s_ireturn (ty := .boolean) (by decide +kernel) rfl, ?_⟩
  exact fun _ h => absurd h List.not_mem_nil
def q_k17 : List (Nat × xO) := q_k17_0 ++ q_k17_1
theorem q_s17 (l : Launch) (s0 : State) : ∀ q ∈ q_k17, x_Sim (x_K s0) none l q_y17 q_c17 2 (some .boolean) q_w17 q.1 q.2 := by
  intro q hq
  simp only [q_k17, List.mem_append] at hq
  rcases hq with h0 | h1
  · exact q_s17_0 l s0 q h0
  · exact q_s17_1 l s0 q h1
/-- ProofDesk$Form.hasSameAtom(II)Z -/
def q_k18_0 : List (Nat × xO) := [(0, x_lda 1 0), (1, x_ldi 2 1), (2, x_cv 5 11 2 4), (5, x_sti 6 3), (6, x_lda 7 0), (7, x_ldi 8 2), (8, x_cv 11 11 2 4), (11, x_sti 13 4), (13, x_lda 14 0), (14, x_gf 17 4 1), (17, x_ldi 18 1), (18, x_ald 19 0), (19, x_ldi 20 3), (20, x_st (x_bin 21 (fun a b => a - b))), (21, x_lda 22 0), (22, x_gf 25 4 1), (25, x_ldi 26 2), (26, x_ald 27 0), (27, x_ldi 29 4), (29, x_st (x_bin 30 (fun a b => a - b))), (30, x_st (x_icne 55 33)), (33, x_lda 34 0), (34, x_ldi 35 3), (35, x_ldi 37 4), (37, x_lda 38 0), (38, x_gf 41 4 1), (41, x_ldi 42 1), (42, x_ald 43 0), (43, x_ldi 44 3), (44, x_st (x_bin 45 (fun a b => a - b))), (45, x_cv 48 19 4 4), (48, x_st (x_ifeq 55 51)), (51, x_st (x_push 52 (.int (1)))), (52, x_st (x_goto 56)), (55, x_st (x_push 56 (.int (0)))), (56, x_ri (.boolean))]
set_option maxRecDepth 100000 in
set_option maxHeartbeats 4000000 in
theorem q_s18_0 (l : Launch) (s0 : State) : ∀ q ∈ q_k18_0, x_Sim (x_K s0) none l q_y18 q_c18 5 (some .boolean) q_w18 q.1 q.2 := by
  unfold q_k18_0
  refine List.forall_mem_cons.2 ⟨s_aload_n (k := 0) (by decide +kernel) rfl, ?_⟩
  refine List.forall_mem_cons.2 ⟨s_iload_n (k := 1) (by decide +kernel) rfl, ?_⟩
  refine List.forall_mem_cons.2 ⟨s_invokevirtual (idx := 35) (M := 11) (k := 1) (ci := 4) (C := q_n4) (T := q_T4) (N := 6) (ym := q_y11) (wm := q_w11) (by decide +kernel) rfl rfl rfl (x_gdV mw_200 mw_201 mw_202 mw_203 mw_199) rfl (by decide +kernel) (by decide), ?_⟩
  refine List.forall_mem_cons.2 ⟨s_istore_n (k := 3) (by decide +kernel) rfl (by decide), ?_⟩
  refine List.forall_mem_cons.2 ⟨s_aload_n (k := 0) (by decide +kernel) rfl, ?_⟩
  refine List.forall_mem_cons.2 ⟨s_iload_n (k := 2) (by decide +kernel) rfl, ?_⟩
  refine List.forall_mem_cons.2 ⟨s_invokevirtual (idx := 35) (M := 11) (k := 1) (ci := 4) (C := q_n4) (T := q_T4) (N := 6) (ym := q_y11) (wm := q_w11) (by decide +kernel) rfl rfl rfl (x_gdV mw_200 mw_201 mw_202 mw_203 mw_199) rfl (by decide +kernel) (by decide), ?_⟩
  refine List.forall_mem_cons.2 ⟨s_istore (by decide +kernel) (by decide), ?_⟩
  refine List.forall_mem_cons.2 ⟨s_aload_n (k := 0) (by decide +kernel) rfl, ?_⟩
  refine List.forall_mem_cons.2 ⟨s_getfield (C := q_n4) (T := q_T4) (N := 6) (idx := 15) (ref := "ProofDesk$Form") (by decide +kernel) rfl q_in4 (by decide) (x_up mw_190) rfl, ?_⟩
  refine List.forall_mem_cons.2 ⟨s_iload_n (k := 1) (by decide +kernel) rfl, ?_⟩
  refine List.forall_mem_cons.2 ⟨s_iald (by decide +kernel) rfl, ?_⟩
  refine List.forall_mem_cons.2 ⟨s_iload_n (k := 3) (by decide +kernel) rfl, ?_⟩
  refine List.forall_mem_cons.2 ⟨s_isub (by decide +kernel), ?_⟩
  refine List.forall_mem_cons.2 ⟨s_aload_n (k := 0) (by decide +kernel) rfl, ?_⟩
  refine List.forall_mem_cons.2 ⟨s_getfield (C := q_n4) (T := q_T4) (N := 6) (idx := 15) (ref := "ProofDesk$Form") (by decide +kernel) rfl q_in4 (by decide) (x_up mw_190) rfl, ?_⟩
  refine List.forall_mem_cons.2 ⟨s_iload_n (k := 2) (by decide +kernel) rfl, ?_⟩
  refine List.forall_mem_cons.2 ⟨s_iald (by decide +kernel) rfl, ?_⟩
  refine List.forall_mem_cons.2 ⟨s_iload (by decide +kernel), ?_⟩
  refine List.forall_mem_cons.2 ⟨s_isub (by decide +kernel), ?_⟩
  refine List.forall_mem_cons.2 ⟨s_icmp_ne (off := 25) (by decide +kernel) (by decide), ?_⟩
  refine List.forall_mem_cons.2 ⟨s_aload_n (k := 0) (by decide +kernel) rfl, ?_⟩
  refine List.forall_mem_cons.2 ⟨s_iload_n (k := 3) (by decide +kernel) rfl, ?_⟩
  refine List.forall_mem_cons.2 ⟨s_iload (by decide +kernel), ?_⟩
  refine List.forall_mem_cons.2 ⟨s_aload_n (k := 0) (by decide +kernel) rfl, ?_⟩
  refine List.forall_mem_cons.2 ⟨s_getfield (C := q_n4) (T := q_T4) (N := 6) (idx := 15) (ref := "ProofDesk$Form") (by decide +kernel) rfl q_in4 (by decide) (x_up mw_190) rfl, ?_⟩
  refine List.forall_mem_cons.2 ⟨s_iload_n (k := 1) (by decide +kernel) rfl, ?_⟩
  refine List.forall_mem_cons.2 ⟨s_iald (by decide +kernel) rfl, ?_⟩
  refine List.forall_mem_cons.2 ⟨s_iload_n (k := 3) (by decide +kernel) rfl, ?_⟩
  refine List.forall_mem_cons.2 ⟨s_isub (by decide +kernel), ?_⟩
  refine List.forall_mem_cons.2 ⟨s_invokevirtual (idx := 52) (M := 19) (k := 3) (ci := 4) (C := q_n4) (T := q_T4) (N := 6) (ym := q_y19) (wm := q_w19) (by decide +kernel) rfl rfl rfl (x_gdV mw_211 mw_212 mw_213 mw_203 mw_210) rfl (by decide +kernel) (by decide), ?_⟩
  refine List.forall_mem_cons.2 ⟨s_ifeq (off := 7) (by decide +kernel) (by decide), ?_⟩
  refine List.forall_mem_cons.2 ⟨s_iconst (k := 1) (by decide +kernel) (by decide +kernel), ?_⟩
  refine List.forall_mem_cons.2 ⟨s_goto (off := 4) (by decide +kernel) (by decide), ?_⟩
  refine List.forall_mem_cons.2 ⟨s_iconst (k := 0) (by decide +kernel) (by decide +kernel), ?_⟩
  refine List.forall_mem_cons.2 ⟨s_ireturn (ty := .boolean) (by decide +kernel) rfl, ?_⟩
  exact fun _ h => absurd h List.not_mem_nil
def q_k18 : List (Nat × xO) := q_k18_0
theorem q_s18 (l : Launch) (s0 : State) : ∀ q ∈ q_k18, x_Sim (x_K s0) none l q_y18 q_c18 5 (some .boolean) q_w18 q.1 q.2 := q_s18_0 l s0
/-- ProofDesk$Form.hasSameSymbols(III)Z -/
def q_k19_0 : List (Nat × xO) := [(0, x_ldi 1 1), (1, x_ldi 2 3), (2, x_st (x_bin 3 (fun a b => a + b))), (3, x_lda 4 0), (4, x_gf 7 4 4), (7, x_st (x_icgt 20 10)), (10, x_ldi 11 2), (11, x_ldi 12 3), (12, x_st (x_bin 13 (fun a b => a + b))), (13, x_lda 14 0), (14, x_gf 17 4 4), (17, x_st (x_icle 22 20)), (20, x_st (x_push 21 (.int (0)))), (21, x_ri (.boolean)), (22, x_st (x_push 23 (.int (0)))), (23, x_sti 25 4), (25, x_ldi 27 4), (27, x_ldi 28 3), (28, x_st (x_icge 60 31)), (31, x_lda 32 0), (32, x_gf 35 4 0), (35, x_ldi 36 1), (36, x_ldi 38 4), (38, x_st (x_bin 39 (fun a b => a + b))), (39, x_ald 40 0), (40, x_lda 41 0), (41, x_gf 44 4 0), (44, x_ldi 45 2), (45, x_ldi 47 4), (47, x_st (x_bin 48 (fun a b => a + b))), (48, x_ald 49 0), (49, x_st (x_iceq 54 52)), (52, x_st (x_push 53 (.int (0)))), (53, x_ri (.boolean)), (54, x_iinc 57 4 (1)), (57, x_st (x_goto 25)), (60, x_st (x_push 61 (.int (1)))), (61, x_ri (.boolean))]
set_option maxRecDepth 100000 in
set_option maxHeartbeats 4000000 in
theorem q_s19_0 (l : Launch) (s0 : State) : ∀ q ∈ q_k19_0, x_Sim (x_K s0) none l q_y19 q_c19 5 (some .boolean) q_w19 q.1 q.2 := by
  unfold q_k19_0
  refine List.forall_mem_cons.2 ⟨s_iload_n (k := 1) (by decide +kernel) rfl, ?_⟩
  refine List.forall_mem_cons.2 ⟨s_iload_n (k := 3) (by decide +kernel) rfl, ?_⟩
  refine List.forall_mem_cons.2 ⟨s_iadd (by decide +kernel), ?_⟩
  refine List.forall_mem_cons.2 ⟨s_aload_n (k := 0) (by decide +kernel) rfl, ?_⟩
  refine List.forall_mem_cons.2 ⟨s_getfield (C := q_n4) (T := q_T4) (N := 6) (idx := 22) (ref := "ProofDesk$Form") (by decide +kernel) rfl q_in4 (by decide) (x_up mw_193) rfl, ?_⟩
  refine List.forall_mem_cons.2 ⟨s_icmp_gt (off := 13) (by decide +kernel) (by decide), ?_⟩
  refine List.forall_mem_cons.2 ⟨s_iload_n (k := 2) (by decide +kernel) rfl, ?_⟩
  refine List.forall_mem_cons.2 ⟨s_iload_n (k := 3) (by decide +kernel) rfl, ?_⟩
  refine List.forall_mem_cons.2 ⟨s_iadd (by decide +kernel), ?_⟩
  refine List.forall_mem_cons.2 ⟨s_aload_n (k := 0) (by decide +kernel) rfl, ?_⟩
  refine List.forall_mem_cons.2 ⟨s_getfield (C := q_n4) (T := q_T4) (N := 6) (idx := 22) (ref := "ProofDesk$Form") (by decide +kernel) rfl q_in4 (by decide) (x_up mw_193) rfl, ?_⟩
  refine List.forall_mem_cons.2 ⟨s_icmp_le (off := 5) (by decide +kernel) (by decide), ?_⟩
  refine List.forall_mem_cons.2 ⟨s_iconst (k := 0) (by decide +kernel) (by decide +kernel), ?_⟩
  refine List.forall_mem_cons.2 ⟨s_ireturn (ty := .boolean) (by decide +kernel) rfl, ?_⟩
  refine List.forall_mem_cons.2 ⟨s_iconst (k := 0) (by decide +kernel) (by decide +kernel), ?_⟩
  refine List.forall_mem_cons.2 ⟨s_istore (by decide +kernel) (by decide), ?_⟩
  refine List.forall_mem_cons.2 ⟨s_iload (by decide +kernel), ?_⟩
  refine List.forall_mem_cons.2 ⟨s_iload_n (k := 3) (by decide +kernel) rfl, ?_⟩
  refine List.forall_mem_cons.2 ⟨s_icmp_ge (off := 32) (by decide +kernel) (by decide), ?_⟩
  refine List.forall_mem_cons.2 ⟨s_aload_n (k := 0) (by decide +kernel) rfl, ?_⟩
  refine List.forall_mem_cons.2 ⟨s_getfield (C := q_n4) (T := q_T4) (N := 6) (idx := 9) (ref := "ProofDesk$Form") (by decide +kernel) rfl q_in4 (by decide) (x_up mw_189) rfl, ?_⟩
  refine List.forall_mem_cons.2 ⟨s_iload_n (k := 1) (by decide +kernel) rfl, ?_⟩
  refine List.forall_mem_cons.2 ⟨s_iload (by decide +kernel), ?_⟩
  refine List.forall_mem_cons.2 ⟨s_iadd (by decide +kernel), ?_⟩
  refine List.forall_mem_cons.2 ⟨s_iald (by decide +kernel) rfl, ?_⟩
  refine List.forall_mem_cons.2 ⟨s_aload_n (k := 0) (by decide +kernel) rfl, ?_⟩
  refine List.forall_mem_cons.2 ⟨s_getfield (C := q_n4) (T := q_T4) (N := 6) (idx := 9) (ref := "ProofDesk$Form") (by decide +kernel) rfl q_in4 (by decide) (x_up mw_189) rfl, ?_⟩
  refine List.forall_mem_cons.2 ⟨s_iload_n (k := 2) (by decide +kernel) rfl, ?_⟩
  refine List.forall_mem_cons.2 ⟨s_iload (by decide +kernel), ?_⟩
  refine List.forall_mem_cons.2 ⟨s_iadd (by decide +kernel), ?_⟩
  refine List.forall_mem_cons.2 ⟨s_iald (by decide +kernel) rfl, ?_⟩
  refine List.forall_mem_cons.2 ⟨s_icmp_eq (off := 5) (by decide +kernel) (by decide), ?_⟩
  refine List.forall_mem_cons.2 ⟨s_iconst (k := 0) (by decide +kernel) (by decide +kernel), ?_⟩
  refine List.forall_mem_cons.2 ⟨s_ireturn (ty := .boolean) (by decide +kernel) rfl, ?_⟩
  refine List.forall_mem_cons.2 ⟨s_iinc (k := 1) (by decide +kernel) (by decide +kernel) (by decide), ?_⟩
  refine List.forall_mem_cons.2 ⟨s_goto (off := -32) (by decide +kernel) (by decide), ?_⟩
  refine List.forall_mem_cons.2 ⟨s_iconst (k := 1) (by decide +kernel) (by decide +kernel), ?_⟩
  refine List.forall_mem_cons.2 ⟨s_ireturn (ty := .boolean) (by decide +kernel) rfl, ?_⟩
  exact fun _ h => absurd h List.not_mem_nil
def q_k19 : List (Nat × xO) := q_k19_0
theorem q_s19 (l : Launch) (s0 : State) : ∀ q ∈ q_k19, x_Sim (x_K s0) none l q_y19 q_c19 5 (some .boolean) q_w19 q.1 q.2 := q_s19_0 l s0
/-- ProofDesk$Form.termEnd(I)I -/
def q_k20_0 : List (Nat × xO) := [(0, x_st (x_push 1 (.int (1)))), (1, x_sti 2 2), (2, x_ldi 3 1), (3, x_sti 4 3), (4, x_ldi 5 3), (5, x_lda 6 0), (6, x_gf 9 4 4), (9, x_st (x_icge 36 12)), (12, x_ldi 13 2), (13, x_st (x_ifle 36 16)), (16, x_ldi 17 2), (17, x_lda 18 0), (18, x_gf 21 4 0), (21, x_ldi 22 3), (22, x_ald 23 0), (23, x_cl_ 26 5 1), (26, x_st (x_push 27 (.int (1)))), (27, x_st (x_bin 28 (fun a b => a - b))), (28, x_st (x_bin 29 (fun a b => a + b))), (29, x_sti 30 2), (30, x_iinc 33 3 (1)), (33, x_st (x_goto 4)), (36, x_ldi 37 3), (37, x_ri (.int))]
set_option maxRecDepth 100000 in
set_option maxHeartbeats 4000000 in
theorem q_s20_0 (l : Launch) (s0 : State) : ∀ q ∈ q_k20_0, x_Sim (x_K s0) none l q_y20 q_c20 4 (some .int) q_w20 q.1 q.2 := by
  unfold q_k20_0
  refine List.forall_mem_cons.2 ⟨s_iconst (k := 1) (by decide +kernel) (by decide +kernel), ?_⟩
  refine List.forall_mem_cons.2 ⟨s_istore_n (k := 2) (by decide +kernel) rfl (by decide), ?_⟩
  refine List.forall_mem_cons.2 ⟨s_iload_n (k := 1) (by decide +kernel) rfl, ?_⟩
  refine List.forall_mem_cons.2 ⟨s_istore_n (k := 3) (by decide +kernel) rfl (by decide), ?_⟩
  refine List.forall_mem_cons.2 ⟨s_iload_n (k := 3) (by decide +kernel) rfl, ?_⟩
  refine List.forall_mem_cons.2 ⟨s_aload_n (k := 0) (by decide +kernel) rfl, ?_⟩
  refine List.forall_mem_cons.2 ⟨s_getfield (C := q_n4) (T := q_T4) (N := 6) (idx := 22) (ref := "ProofDesk$Form") (by decide +kernel) rfl q_in4 (by decide) (x_up mw_193) rfl, ?_⟩
  refine List.forall_mem_cons.2 ⟨s_icmp_ge (off := 27) (by decide +kernel) (by decide), ?_⟩
  refine List.forall_mem_cons.2 ⟨s_iload_n (k := 2) (by decide +kernel) rfl, ?_⟩
  refine List.forall_mem_cons.2 ⟨s_ifle (off := 23) (by decide +kernel) (by decide), ?_⟩
  refine List.forall_mem_cons.2 ⟨s_iload_n (k := 2) (by decide +kernel) rfl, ?_⟩
  refine List.forall_mem_cons.2 ⟨s_aload_n (k := 0) (by decide +kernel) rfl, ?_⟩
  refine List.forall_mem_cons.2 ⟨s_getfield (C := q_n4) (T := q_T4) (N := 6) (idx := 9) (ref := "ProofDesk$Form") (by decide +kernel) rfl q_in4 (by decide) (x_up mw_189) rfl, ?_⟩
  refine List.forall_mem_cons.2 ⟨s_iload_n (k := 3) (by decide +kernel) rfl, ?_⟩
  refine List.forall_mem_cons.2 ⟨s_iald (by decide +kernel) rfl, ?_⟩
  refine List.forall_mem_cons.2 ⟨s_invokestatic (idx := 56) (M := 5) (ym := q_y5) (wm := q_w5) (by decide +kernel) rfl rfl (x_gdS mw_215 mw_216 mw_175 mw_214) rfl (by decide +kernel) (by decide), ?_⟩
  refine List.forall_mem_cons.2 ⟨s_iconst (k := 1) (by decide +kernel) (by decide +kernel), ?_⟩
  refine List.forall_mem_cons.2 ⟨s_isub (by decide +kernel), ?_⟩
  refine List.forall_mem_cons.2 ⟨s_iadd (by decide +kernel), ?_⟩
  refine List.forall_mem_cons.2 ⟨s_istore_n (k := 2) (by decide +kernel) rfl (by decide), ?_⟩
  refine List.forall_mem_cons.2 ⟨s_iinc (k := 1) (by decide +kernel) (by decide +kernel) (by decide), ?_⟩
  refine List.forall_mem_cons.2 ⟨s_goto (off := -29) (by decide +kernel) (by decide), ?_⟩
  refine List.forall_mem_cons.2 ⟨s_iload_n (k := 3) (by decide +kernel) rfl, ?_⟩
  refine List.forall_mem_cons.2 ⟨s_ireturn (ty := .int) (by decide +kernel) rfl, ?_⟩
  exact fun _ h => absurd h List.not_mem_nil
def q_k20 : List (Nat × xO) := q_k20_0
theorem q_s20 (l : Launch) (s0 : State) : ∀ q ∈ q_k20, x_Sim (x_K s0) none l q_y20 q_c20 4 (some .int) q_w20 q.1 q.2 := q_s20_0 l s0
/-- ProofDesk$Form.nameVariables()I -/
def q_k21_0 : List (Nat × xO) := [(0, x_st (x_push 1 (.int (0)))), (1, x_sti 2 1), (2, x_st (x_push 3 (.int (0)))), (3, x_sti 4 2), (4, x_ldi 5 2), (5, x_lda 6 0), (6, x_gf 9 4 4), (9, x_st (x_icge 46 12)), (12, x_lda 13 0), (13, x_gf 16 4 0), (16, x_ldi 17 2), (17, x_ald 18 0), (18, x_cl_ 21 2 1), (21, x_st (x_ifeq 40 24)), (24, x_iinc 27 1 (1)), (27, x_lda 28 0), (28, x_ldi 29 2), (29, x_lda 30 0), (30, x_gf 33 4 0), (33, x_ldi 34 2), (34, x_ald 35 0), (35, x_ldi 36 1), (36, x_st (x_un 37 (fun a => .int (-a)))), (37, x_cv 40 22 4 4), (40, x_iinc 43 2 (1)), (43, x_st (x_goto 4)), (46, x_st (x_push 47 (.int (0)))), (47, x_sti 48 2), (48, x_ldi 49 2), (49, x_lda 50 0), (50, x_gf 53 4 4), (53, x_st (x_icge 89 56)), (56, x_lda 57 0), (57, x_gf 60 4 0), (60, x_ldi 61 2), (61, x_ald 62 0), (62, x_st (x_ifge 83 65)), (65, x_lda 66 0), (66, x_gf 69 4 0), (69, x_ldi 70 2)]
set_option maxRecDepth 100000 in
set_option maxHeartbeats 4000000 in
theorem q_s21_0 (l : Launch) (s0 : State) : ∀ q ∈ q_k21_0, x_Sim (x_K s0) none l q_y21 q_c21 3 (some .int) q_w21 q.1 q.2 := by
  unfold q_k21_0
  refine List.forall_mem_cons.2 ⟨s_iconst (k := 0) (by decide +kernel) (by decide +kernel), ?_⟩
  refine List.forall_mem_cons.2 ⟨s_istore_n (k := 1) (by decide +kernel) rfl (by decide), ?_⟩
  refine List.forall_mem_cons.2 ⟨s_iconst (k := 0) (by decide +kernel) (by decide +kernel), ?_⟩
  refine List.forall_mem_cons.2 ⟨s_istore_n (k := 2) (by decide +kernel) rfl (by decide), ?_⟩
  refine List.forall_mem_cons.2 ⟨s_iload_n (k := 2) (by decide +kernel) rfl, ?_⟩
  refine List.forall_mem_cons.2 ⟨s_aload_n (k := 0) (by decide +kernel) rfl, ?_⟩
  refine List.forall_mem_cons.2 ⟨s_getfield (C := q_n4) (T := q_T4) (N := 6) (idx := 22) (ref := "ProofDesk$Form") (by decide +kernel) rfl q_in4 (by decide) (x_up mw_193) rfl, ?_⟩
  refine List.forall_mem_cons.2 ⟨s_icmp_ge (off := 37) (by decide +kernel) (by decide), ?_⟩
  refine List.forall_mem_cons.2 ⟨s_aload_n (k := 0) (by decide +kernel) rfl, ?_⟩
  refine List.forall_mem_cons.2 ⟨s_getfield (C := q_n4) (T := q_T4) (N := 6) (idx := 9) (ref := "ProofDesk$Form") (by decide +kernel) rfl q_in4 (by decide) (x_up mw_189) rfl, ?_⟩
  refine List.forall_mem_cons.2 ⟨s_iload_n (k := 2) (by decide +kernel) rfl, ?_⟩
  refine List.forall_mem_cons.2 ⟨s_iald (by decide +kernel) rfl, ?_⟩
  refine List.forall_mem_cons.2 ⟨s_invokestatic (idx := 41) (M := 2) (ym := q_y2) (wm := q_w2) (by decide +kernel) rfl rfl (x_gdS mw_204 mw_174 mw_175 mw_172) rfl (by decide +kernel) (by decide), ?_⟩
  refine List.forall_mem_cons.2 ⟨s_ifeq (off := 19) (by decide +kernel) (by decide), ?_⟩
  refine List.forall_mem_cons.2 ⟨s_iinc (k := 1) (by decide +kernel) (by decide +kernel) (by decide), ?_⟩
  refine List.forall_mem_cons.2 ⟨s_aload_n (k := 0) (by decide +kernel) rfl, ?_⟩
  refine List.forall_mem_cons.2 ⟨s_iload_n (k := 2) (by decide +kernel) rfl, ?_⟩
  refine List.forall_mem_cons.2 ⟨s_aload_n (k := 0) (by decide +kernel) rfl, ?_⟩
  refine List.forall_mem_cons.2 ⟨s_getfield (C := q_n4) (T := q_T4) (N := 6) (idx := 9) (ref := "ProofDesk$Form") (by decide +kernel) rfl q_in4 (by decide) (x_up mw_189) rfl, ?_⟩
  refine List.forall_mem_cons.2 ⟨s_iload_n (k := 2) (by decide +kernel) rfl, ?_⟩
  refine List.forall_mem_cons.2 ⟨s_iald (by decide +kernel) rfl, ?_⟩
  refine List.forall_mem_cons.2 ⟨s_iload_n (k := 1) (by decide +kernel) rfl, ?_⟩
  refine List.forall_mem_cons.2 ⟨s_ineg (by decide +kernel), ?_⟩
  refine List.forall_mem_cons.2 ⟨s_invokevirtual (idx := 59) (M := 22) (k := 3) (ci := 4) (C := q_n4) (T := q_T4) (N := 6) (ym := q_y22) (wm := q_w22) (by decide +kernel) rfl rfl rfl (x_gdV mw_218 mw_219 mw_220 mw_203 mw_217) rfl (by decide +kernel) (by decide), ?_⟩
  refine List.forall_mem_cons.2 ⟨s_iinc (k := 1) (by decide +kernel) (by decide +kernel) (by decide), ?_⟩
  refine List.forall_mem_cons.2 ⟨s_goto (off := -39) (by decide +kernel) (by decide), ?_⟩
  refine List.forall_mem_cons.2 ⟨s_iconst (k := 0) (by decide +kernel) (by decide +kernel), ?_⟩
  refine List.forall_mem_cons.2 ⟨s_istore_n (k := 2) (by decide +kernel) rfl (by decide), ?_⟩
  refine List.forall_mem_cons.2 ⟨s_iload_n (k := 2) (by decide +kernel) rfl, ?_⟩
  refine List.forall_mem_cons.2 ⟨s_aload_n (k := 0) (by decide +kernel) rfl, ?_⟩
  refine List.forall_mem_cons.2 ⟨s_getfield (C := q_n4) (T := q_T4) (N := 6) (idx := 22) (ref := "ProofDesk$Form") (by decide +kernel) rfl q_in4 (by decide) (x_up mw_193) rfl, ?_⟩
  refine List.forall_mem_cons.2 ⟨s_icmp_ge (off := 36) (by decide +kernel) (by decide), ?_⟩
  refine List.forall_mem_cons.2 ⟨s_aload_n (k := 0) (by decide +kernel) rfl, ?_⟩
  refine List.forall_mem_cons.2 ⟨s_getfield (C := q_n4) (T := q_T4) (N := 6) (idx := 9) (ref := "ProofDesk$Form") (by decide +kernel) rfl q_in4 (by decide) (x_up mw_189) rfl, ?_⟩
  refine List.forall_mem_cons.2 ⟨s_iload_n (k := 2) (by decide +kernel) rfl, ?_⟩
  refine List.forall_mem_cons.2 ⟨s_iald (by decide +kernel) rfl, ?_⟩
  refine List.forall_mem_cons.2 ⟨s_ifge (off := 21) (by decide +kernel) (by decide), ?_⟩
  refine List.forall_mem_cons.2 ⟨s_aload_n (k := 0) (by decide +kernel) rfl, ?_⟩
  refine List.forall_mem_cons.2 ⟨s_getfield (C := q_n4) (T := q_T4) (N := 6) (idx := 9) (ref := "ProofDesk$Form") (by decide +kernel) rfl q_in4 (by decide) (x_up mw_189) rfl, ?_⟩
  refine List.forall_mem_cons.2 ⟨s_iload_n (k := 2) (by decide +kernel) rfl, ?_⟩
  exact fun _ h => absurd h List.not_mem_nil
def q_k21_1 : List (Nat × xO) := [(70, x_lda 71 0), (71, x_gf 74 4 0), (74, x_ldi 75 2), (75, x_ald 76 0), (76, x_st (x_un 77 (fun a => .int (-a)))), (77, x_st (x_push 78 (.int (1)))), (78, x_st (x_bin 79 (fun a b => a - b))), (79, x_cl_ 82 1 1), (82, x_ast 83 0 (fun x => x)), (83, x_iinc 86 2 (1)), (86, x_st (x_goto 48)), (89, x_ldi 90 1), (90, x_ri (.int))]
set_option maxRecDepth 100000 in
set_option maxHeartbeats 4000000 in
theorem q_s21_1 (l : Launch) (s0 : State) : ∀ q ∈ q_k21_1, x_Sim (x_K s0) none l q_y21 q_c21 3 (some .int) q_w21 q.1 q.2 := by
  unfold q_k21_1
  refine List.forall_mem_cons.2 ⟨s_aload_n (k := 0) (by decide +kernel) rfl, ?_⟩
  refine List.forall_mem_cons.2 ⟨s_getfield (C := q_n4) (T := q_T4) (N := 6) (idx := 9) (ref := "ProofDesk$Form") (by decide +kernel) rfl q_in4 (by decide) (x_up mw_189) rfl, ?_⟩
  refine List.forall_mem_cons.2 ⟨s_iload_n (k := 2) (by decide +kernel) rfl, ?_⟩
  refine List.forall_mem_cons.2 ⟨s_iald (by decide +kernel) rfl, ?_⟩
  refine List.forall_mem_cons.2 ⟨s_ineg (by decide +kernel), ?_⟩
  refine List.forall_mem_cons.2 ⟨s_iconst (k := 1) (by decide +kernel) (by decide +kernel), ?_⟩
  refine List.forall_mem_cons.2 ⟨s_isub (by decide +kernel), ?_⟩
  refine List.forall_mem_cons.2 ⟨s_invokestatic (idx := 63) (M := 1) (ym := q_y1) (wm := q_w1) (by decide +kernel) rfl rfl (x_gdS mw_222 mw_223 mw_175 mw_221) rfl (by decide +kernel) (by decide), ?_⟩
  refine List.forall_mem_cons.2 ⟨s_iast (by decide +kernel) rfl, ?_⟩
  refine List.forall_mem_cons.2 ⟨s_iinc (k := 1) (by decide +kernel) (by decide +kernel) (by decide), ?_⟩
  refine List.forall_mem_cons.2 ⟨s_goto (off := -38) (by decide +kernel) (by decide), ?_⟩
  refine List.forall_mem_cons.2 ⟨s_iload_n (k := 1) (by decide +kernel) rfl, ?_⟩
  refine List.forall_mem_cons.2 ⟨s_ireturn (ty := .int) (by decide +kernel) rfl, ?_⟩
  exact fun _ h => absurd h List.not_mem_nil
def q_k21 : List (Nat × xO) := q_k21_0 ++ q_k21_1
theorem q_s21 (l : Launch) (s0 : State) : ∀ q ∈ q_k21, x_Sim (x_K s0) none l q_y21 q_c21 3 (some .int) q_w21 q.1 q.2 := by
  intro q hq
  simp only [q_k21, List.mem_append] at hq
  rcases hq with h0 | h1
  · exact q_s21_0 l s0 q h0
  · exact q_s21_1 l s0 q h1
/-- ProofDesk$Form.replaceFrom(III)V -/
def q_k22_0 : List (Nat × xO) := [(0, x_ldi 1 1), (1, x_sti 3 4), (3, x_ldi 5 4), (5, x_lda 6 0), (6, x_gf 9 4 4), (9, x_st (x_icge 37 12)), (12, x_lda 13 0), (13, x_gf 16 4 0), (16, x_ldi 18 4), (18, x_ald 19 0), (19, x_ldi 20 2), (20, x_st (x_icne 31 23)), (23, x_lda 24 0), (24, x_gf 27 4 0), (27, x_ldi 29 4), (29, x_ldi 30 3), (30, x_ast 31 0 (fun x => x)), (31, x_iinc 34 4 (1)), (34, x_st (x_goto 3)), (37, x_rv)]
set_option maxRecDepth 100000 in
set_option maxHeartbeats 4000000 in
theorem q_s22_0 (l : Launch) (s0 : State) : ∀ q ∈ q_k22_0, x_Sim (x_K s0) none l q_y22 q_c22 5 none q_w22 q.1 q.2 := by
  unfold q_k22_0
  refine List.forall_mem_cons.2 ⟨s_iload_n (k := 1) (by decide +kernel) rfl, ?_⟩
  refine List.forall_mem_cons.2 ⟨s_istore (by decide +kernel) (by decide), ?_⟩
  refine List.forall_mem_cons.2 ⟨s_iload (by decide +kernel), ?_⟩
  refine List.forall_mem_cons.2 ⟨s_aload_n (k := 0) (by decide +kernel) rfl, ?_⟩
  refine List.forall_mem_cons.2 ⟨s_getfield (C := q_n4) (T := q_T4) (N := 6) (idx := 22) (ref := "ProofDesk$Form") (by decide +kernel) rfl q_in4 (by decide) (x_up mw_193) rfl, ?_⟩
  refine List.forall_mem_cons.2 ⟨s_icmp_ge (off := 28) (by decide +kernel) (by decide), ?_⟩
  refine List.forall_mem_cons.2 ⟨s_aload_n (k := 0) (by decide +kernel) rfl, ?_⟩
  refine List.forall_mem_cons.2 ⟨s_getfield (C := q_n4) (T := q_T4) (N := 6) (idx := 9) (ref := "ProofDesk$Form") (by decide +kernel) rfl q_in4 (by decide) (x_up mw_189) rfl, ?_⟩
  refine List.forall_mem_cons.2 ⟨s_iload (by decide +kernel), ?_⟩
  refine List.forall_mem_cons.2 ⟨s_iald (by decide +kernel) rfl, ?_⟩
  refine List.forall_mem_cons.2 ⟨s_iload_n (k := 2) (by decide +kernel) rfl, ?_⟩
  refine List.forall_mem_cons.2 ⟨s_icmp_ne (off := 11) (by decide +kernel) (by decide), ?_⟩
  refine List.forall_mem_cons.2 ⟨s_aload_n (k := 0) (by decide +kernel) rfl, ?_⟩
  refine List.forall_mem_cons.2 ⟨s_getfield (C := q_n4) (T := q_T4) (N := 6) (idx := 9) (ref := "ProofDesk$Form") (by decide +kernel) rfl q_in4 (by decide) (x_up mw_189) rfl, ?_⟩
  refine List.forall_mem_cons.2 ⟨s_iload (by decide +kernel), ?_⟩
  refine List.forall_mem_cons.2 ⟨s_iload_n (k := 3) (by decide +kernel) rfl, ?_⟩
  refine List.forall_mem_cons.2 ⟨s_iast (by decide +kernel) rfl, ?_⟩
  refine List.forall_mem_cons.2 ⟨s_iinc (k := 1) (by decide +kernel) (by decide +kernel) (by decide), ?_⟩
  refine List.forall_mem_cons.2 ⟨s_goto (off := -31) (by decide +kernel) (by decide), ?_⟩
  refine List.forall_mem_cons.2 ⟨s_return (by decide +kernel) rfl, ?_⟩
  exact fun _ h => absurd h List.not_mem_nil
def q_k22 : List (Nat × xO) := q_k22_0
theorem q_s22 (l : Launch) (s0 : State) : ∀ q ∈ q_k22, x_Sim (x_K s0) none l q_y22 q_c22 5 none q_w22 q.1 q.2 := q_s22_0 l s0
/-- ProofDesk$Form.isSame(LProofDesk$Form;)Z -/
def q_k23_0 : List (Nat × xO) := [(0, x_lda 1 0), (1, x_gf 4 4 3), (4, x_lda 5 1), (5, x_gf 8 4 3), (8, x_st (x_icne 22 11)), (11, x_lda 12 0), (12, x_gf 15 4 4), (15, x_lda 16 1), (16, x_gf 19 4 4), (19, x_st (x_iceq 24 22)), (22, x_st (x_push 23 (.int (0)))), (23, x_ri (.boolean)), (24, x_st (x_push 25 (.int (0)))), (25, x_sti 26 2), (26, x_ldi 27 2), (27, x_lda 28 0), (28, x_gf 31 4 3), (31, x_st (x_icge 72 34)), (34, x_lda 35 0), (35, x_gf 38 4 1), (38, x_ldi 39 2), (39, x_ald 40 0), (40, x_lda 41 1), (41, x_gf 44 4 1), (44, x_ldi 45 2), (45, x_ald 46 0), (46, x_st (x_icne 64 49)), (49, x_lda 50 0), (50, x_gf 53 4 2), (53, x_ldi 54 2), (54, x_ald 55 1), (55, x_lda 56 1), (56, x_gf 59 4 2), (59, x_ldi 60 2), (60, x_ald 61 1), (61, x_st (x_iceq 66 64)), (64, x_st (x_push 65 (.int (0)))), (65, x_ri (.boolean)), (66, x_iinc 69 2 (1)), (69, x_st (x_goto 26))]
set_option maxRecDepth 100000 in
set_option maxHeartbeats 4000000 in
theorem q_s23_0 (l : Launch) (s0 : State) : ∀ q ∈ q_k23_0, x_Sim (x_K s0) none l q_y23 q_c23 3 (some .boolean) q_w23 q.1 q.2 := by
  unfold q_k23_0
  refine List.forall_mem_cons.2 ⟨s_aload_n (k := 0) (by decide +kernel) rfl, ?_⟩
  refine List.forall_mem_cons.2 ⟨s_getfield (C := q_n4) (T := q_T4) (N := 6) (idx := 32) (ref := "ProofDesk$Form") (by decide +kernel) rfl q_in4 (by decide) (x_up mw_198) rfl, ?_⟩
  refine List.forall_mem_cons.2 ⟨s_aload_n (k := 1) (by decide +kernel) rfl, ?_⟩
  refine List.forall_mem_cons.2 ⟨s_getfield (C := q_n4) (T := q_T4) (N := 6) (idx := 32) (ref := "ProofDesk$Form") (by decide +kernel) rfl q_in4 (by decide) (x_up mw_198) rfl, ?_⟩
  refine List.forall_mem_cons.2 ⟨s_icmp_ne (off := 14) (by decide +kernel) (by decide), ?_⟩
  refine List.forall_mem_cons.2 ⟨s_aload_n (k := 0) (by decide +kernel) rfl, ?_⟩
  refine List.forall_mem_cons.2 ⟨s_getfield (C := q_n4) (T := q_T4) (N := 6) (idx := 22) (ref := "ProofDesk$Form") (by decide +kernel) rfl q_in4 (by decide) (x_up mw_193) rfl, ?_⟩
  refine List.forall_mem_cons.2 ⟨s_aload_n (k := 1) (by decide +kernel) rfl, ?_⟩
  refine List.forall_mem_cons.2 ⟨s_getfield (C := q_n4) (T := q_T4) (N := 6) (idx := 22) (ref := "ProofDesk$Form") (by decide +kernel) rfl q_in4 (by decide) (x_up mw_193) rfl, ?_⟩
  refine List.forall_mem_cons.2 ⟨s_icmp_eq (off := 5) (by decide +kernel) (by decide), ?_⟩
  refine List.forall_mem_cons.2 ⟨s_iconst (k := 0) (by decide +kernel) (by decide +kernel), ?_⟩
  refine List.forall_mem_cons.2 ⟨s_ireturn (ty := .boolean) (by decide +kernel) rfl, ?_⟩
  refine List.forall_mem_cons.2 ⟨s_iconst (k := 0) (by decide +kernel) (by decide +kernel), ?_⟩
  refine List.forall_mem_cons.2 ⟨s_istore_n (k := 2) (by decide +kernel) rfl (by decide), ?_⟩
  refine List.forall_mem_cons.2 ⟨s_iload_n (k := 2) (by decide +kernel) rfl, ?_⟩
  refine List.forall_mem_cons.2 ⟨s_aload_n (k := 0) (by decide +kernel) rfl, ?_⟩
  refine List.forall_mem_cons.2 ⟨s_getfield (C := q_n4) (T := q_T4) (N := 6) (idx := 32) (ref := "ProofDesk$Form") (by decide +kernel) rfl q_in4 (by decide) (x_up mw_198) rfl, ?_⟩
  refine List.forall_mem_cons.2 ⟨s_icmp_ge (off := 41) (by decide +kernel) (by decide), ?_⟩
  refine List.forall_mem_cons.2 ⟨s_aload_n (k := 0) (by decide +kernel) rfl, ?_⟩
  refine List.forall_mem_cons.2 ⟨s_getfield (C := q_n4) (T := q_T4) (N := 6) (idx := 15) (ref := "ProofDesk$Form") (by decide +kernel) rfl q_in4 (by decide) (x_up mw_190) rfl, ?_⟩
  refine List.forall_mem_cons.2 ⟨s_iload_n (k := 2) (by decide +kernel) rfl, ?_⟩
  refine List.forall_mem_cons.2 ⟨s_iald (by decide +kernel) rfl, ?_⟩
  refine List.forall_mem_cons.2 ⟨s_aload_n (k := 1) (by decide +kernel) rfl, ?_⟩
  refine List.forall_mem_cons.2 ⟨s_getfield (C := q_n4) (T := q_T4) (N := 6) (idx := 15) (ref := "ProofDesk$Form") (by decide +kernel) rfl q_in4 (by decide) (x_up mw_190) rfl, ?_⟩
  refine List.forall_mem_cons.2 ⟨s_iload_n (k := 2) (by decide +kernel) rfl, ?_⟩
  refine List.forall_mem_cons.2 ⟨s_iald (by decide +kernel) rfl, ?_⟩
  refine List.forall_mem_cons.2 ⟨s_icmp_ne (off := 18) (by decide +kernel) (by decide), ?_⟩
  refine List.forall_mem_cons.2 ⟨s_aload_n (k := 0) (by decide +kernel) rfl, ?_⟩
  refine List.forall_mem_cons.2 ⟨s_getfield (C := q_n4) (T := q_T4) (N := 6) (idx := 18) (ref := "ProofDesk$Form") (by decide +kernel) rfl q_in4 (by decide) (x_up mw_192) rfl, ?_⟩
  refine List.forall_mem_cons.2 ⟨s_iload_n (k := 2) (by decide +kernel) rfl, ?_⟩
  refine List.forall_mem_cons.2 ⟨s_zald (by decide +kernel) rfl, ?_⟩
  refine List.forall_mem_cons.2 ⟨s_aload_n (k := 1) (by decide +kernel) rfl, ?_⟩
  refine List.forall_mem_cons.2 ⟨s_getfield (C := q_n4) (T := q_T4) (N := 6) (idx := 18) (ref := "ProofDesk$Form") (by decide +kernel) rfl q_in4 (by decide) (x_up mw_192) rfl, ?_⟩
  refine List.forall_mem_cons.2 ⟨s_iload_n (k := 2) (by decide +kernel) rfl, ?_⟩
  refine List.forall_mem_cons.2 ⟨s_zald (by decide +kernel) rfl, ?_⟩
  refine List.forall_mem_cons.2 ⟨s_icmp_eq (off := 5) (by decide +kernel) (by decide), ?_⟩
  refine List.forall_mem_cons.2 ⟨s_iconst (k := 0) (by decide +kernel) (by decide +kernel), ?_⟩
  refine List.forall_mem_cons.2 ⟨s_ireturn (ty := .boolean) (by decide +kernel) rfl, ?_⟩
  refine List.forall_mem_cons.2 ⟨s_iinc (k := 1) (by decide +kernel) (by decide +kernel) (by decide), ?_⟩
  refine List.forall_mem_cons.2 ⟨s_goto (off := -43) (by decide +kernel) (by decide), ?_⟩
  exact fun _ h => absurd h List.not_mem_nil
def q_k23_1 : List (Nat × xO) := [(72, x_st (x_push 73 (.int (0)))), (73, x_sti 74 2), (74, x_ldi 75 2), (75, x_lda 76 0), (76, x_gf 79 4 4), (79, x_st (x_icge 105 82)), (82, x_lda 83 0), (83, x_gf 86 4 0), (86, x_ldi 87 2), (87, x_ald 88 0), (88, x_lda 89 1), (89, x_gf 92 4 0), (92, x_ldi 93 2), (93, x_ald 94 0), (94, x_st (x_iceq 99 97)), (97, x_st (x_push 98 (.int (0)))), (98, x_ri (.boolean)), (99, x_iinc 102 2 (1)), (102, x_st (x_goto 74)), (105, x_st (x_push 106 (.int (1)))), (106, x_ri (.boolean))]
set_option maxRecDepth 100000 in
set_option maxHeartbeats 4000000 in
theorem q_s23_1 (l : Launch) (s0 : State) : ∀ q ∈ q_k23_1, x_Sim (x_K s0) none l q_y23 q_c23 3 (some .boolean) q_w23 q.1 q.2 := by
  unfold q_k23_1
  refine List.forall_mem_cons.2 ⟨s_iconst (k := 0) (by decide +kernel) (by decide +kernel), ?_⟩
  refine List.forall_mem_cons.2 ⟨s_istore_n (k := 2) (by decide +kernel) rfl (by decide), ?_⟩
  refine List.forall_mem_cons.2 ⟨s_iload_n (k := 2) (by decide +kernel) rfl, ?_⟩
  refine List.forall_mem_cons.2 ⟨s_aload_n (k := 0) (by decide +kernel) rfl, ?_⟩
  refine List.forall_mem_cons.2 ⟨s_getfield (C := q_n4) (T := q_T4) (N := 6) (idx := 22) (ref := "ProofDesk$Form") (by decide +kernel) rfl q_in4 (by decide) (x_up mw_193) rfl, ?_⟩
  refine List.forall_mem_cons.2 ⟨s_icmp_ge (off := 26) (by decide +kernel) (by decide), ?_⟩
  refine List.forall_mem_cons.2 ⟨s_aload_n (k := 0) (by decide +kernel) rfl, ?_⟩
  refine List.forall_mem_cons.2 ⟨s_getfield (C := q_n4) (T := q_T4) (N := 6) (idx := 9) (ref := "ProofDesk$Form") (by decide +kernel) rfl q_in4 (by decide) (x_up mw_189) rfl, ?_⟩
  refine List.forall_mem_cons.2 ⟨s_iload_n (k := 2) (by decide +kernel) rfl, ?_⟩
  refine List.forall_mem_cons.2 ⟨s_iald (by decide +kernel) rfl, ?_⟩
  refine List.forall_mem_cons.2 ⟨s_aload_n (k := 1) (by decide +kernel) rfl, ?_⟩
  refine List.forall_mem_cons.2 ⟨s_getfield (C := q_n4) (T := q_T4) (N := 6) (idx := 9) (ref := "ProofDesk$Form") (by decide +kernel) rfl q_in4 (by decide) (x_up mw_189) rfl, ?_⟩
  refine List.forall_mem_cons.2 ⟨s_iload_n (k := 2) (by decide +kernel) rfl, ?_⟩
  refine List.forall_mem_cons.2 ⟨s_iald (by decide +kernel) rfl, ?_⟩
  refine List.forall_mem_cons.2 ⟨s_icmp_eq (off := 5) (by decide +kernel) (by decide), ?_⟩
  refine List.forall_mem_cons.2 ⟨s_iconst (k := 0) (by decide +kernel) (by decide +kernel), ?_⟩
  refine List.forall_mem_cons.2 ⟨s_ireturn (ty := .boolean) (by decide +kernel) rfl, ?_⟩
  refine List.forall_mem_cons.2 ⟨s_iinc (k := 1) (by decide +kernel) (by decide +kernel) (by decide), ?_⟩
  refine List.forall_mem_cons.2 ⟨s_goto (off := -28) (by decide +kernel) (by decide), ?_⟩
  refine List.forall_mem_cons.2 ⟨s_iconst (k := 1) (by decide +kernel) (by decide +kernel), ?_⟩
  refine List.forall_mem_cons.2 ⟨s_ireturn (ty := .boolean) (by decide +kernel) rfl, ?_⟩
  exact fun _ h => absurd h List.not_mem_nil
def q_k23 : List (Nat × xO) := q_k23_0 ++ q_k23_1
theorem q_s23 (l : Launch) (s0 : State) : ∀ q ∈ q_k23, x_Sim (x_K s0) none l q_y23 q_c23 3 (some .boolean) q_w23 q.1 q.2 := by
  intro q hq
  simp only [q_k23, List.mem_append] at hq
  rcases hq with h0 | h1
  · exact q_s23_0 l s0 q h0
  · exact q_s23_1 l s0 q h1
/-- ProofDesk$Form.isAlwaysTrue()Z -/
def q_k24_0 : List (Nat × xO) := [(0, x_st (x_push 1 (.int (0)))), (1, x_sti 2 1), (2, x_ldi 3 1), (3, x_lda 4 0), (4, x_gf 7 4 3), (7, x_st (x_icge 82 10)), (10, x_lda 11 0), (11, x_gf 14 4 2), (14, x_ldi 15 1), (15, x_ald 16 1), (16, x_st (x_ifne 37 19)), (19, x_lda 20 0), (20, x_ldi 21 1), (21, x_cv 24 13 2 4), (24, x_st (x_ifeq 37 27)), (27, x_lda 28 0), (28, x_ldi 29 1), (29, x_cv 32 25 2 4), (32, x_st (x_ifeq 37 35)), (35, x_st (x_push 36 (.int (1)))), (36, x_ri (.boolean)), (37, x_st (x_push 38 (.int (0)))), (38, x_sti 39 2), (39, x_ldi 40 2), (40, x_ldi 41 1), (41, x_st (x_icge 76 44)), (44, x_lda 45 0), (45, x_gf 48 4 2), (48, x_ldi 49 2), (49, x_ald 50 1), (50, x_lda 51 0), (51, x_gf 54 4 2), (54, x_ldi 55 1), (55, x_ald 56 1), (56, x_st (x_iceq 70 59)), (59, x_lda 60 0), (60, x_ldi 61 2), (61, x_ldi 62 1), (62, x_cv 65 18 3 4), (65, x_st (x_ifeq 70 68))]
set_option maxRecDepth 100000 in
set_option maxHeartbeats 4000000 in
theorem q_s24_0 (l : Launch) (s0 : State) : ∀ q ∈ q_k24_0, x_Sim (x_K s0) none l q_y24 q_c24 3 (some .boolean) q_w24 q.1 q.2 := by
  unfold q_k24_0
  refine List.forall_mem_cons.2 ⟨s_iconst (k := 0) (by decide +kernel) (by decide +kernel), ?_⟩
  refine List.forall_mem_cons.2 ⟨s_istore_n (k := 1) (by decide +kernel) rfl (by decide), ?_⟩
  refine List.forall_mem_cons.2 ⟨s_iload_n (k := 1) (by decide +kernel) rfl, ?_⟩
  refine List.forall_mem_cons.2 ⟨s_aload_n (k := 0) (by decide +kernel) rfl, ?_⟩
  refine List.forall_mem_cons.2 ⟨s_getfield (C := q_n4) (T := q_T4) (N := 6) (idx := 32) (ref := "ProofDesk$Form") (by decide +kernel) rfl q_in4 (by decide) (x_up mw_198) rfl, ?_⟩
  refine List.forall_mem_cons.2 ⟨s_icmp_ge (off := 75) (by decide +kernel) (by decide), ?_⟩
  refine List.forall_mem_cons.2 ⟨s_aload_n (k := 0) (by decide +kernel) rfl, ?_⟩
  refine List.forall_mem_cons.2 ⟨s_getfield (C := q_n4) (T := q_T4) (N := 6) (idx := 18) (ref := "ProofDesk$Form") (by decide +kernel) rfl q_in4 (by decide) (x_up mw_192) rfl, ?_⟩
  refine List.forall_mem_cons.2 ⟨s_iload_n (k := 1) (by decide +kernel) rfl, ?_⟩
  refine List.forall_mem_cons.2 ⟨s_zald (by decide +kernel) rfl, ?_⟩
  refine List.forall_mem_cons.2 ⟨s_ifne (off := 21) (by decide +kernel) (by decide), ?_⟩
  refine List.forall_mem_cons.2 ⟨s_aload_n (k := 0) (by decide +kernel) rfl, ?_⟩
  refine List.forall_mem_cons.2 ⟨s_iload_n (k := 1) (by decide +kernel) rfl, ?_⟩
  refine List.forall_mem_cons.2 ⟨s_invokevirtual (idx := 66) (M := 13) (k := 1) (ci := 4) (C := q_n4) (T := q_T4) (N := 6) (ym := q_y13) (wm := q_w13) (by decide +kernel) rfl rfl rfl (x_gdV mw_225 mw_226 mw_227 mw_203 mw_224) rfl (by decide +kernel) (by decide), ?_⟩
  refine List.forall_mem_cons.2 ⟨s_ifeq (off := 13) (by decide +kernel) (by decide), ?_⟩
  refine List.forall_mem_cons.2 ⟨s_aload_n (k := 0) (by decide +kernel) rfl, ?_⟩
  refine List.forall_mem_cons.2 ⟨s_iload_n (k := 1) (by decide +kernel) rfl, ?_⟩
  refine List.forall_mem_cons.2 ⟨s_invokevirtual (idx := 69) (M := 25) (k := 1) (ci := 4) (C := q_n4) (T := q_T4) (N := 6) (ym := q_y25) (wm := q_w25) (by decide +kernel) rfl rfl rfl (x_gdV mw_229 mw_230 mw_231 mw_203 mw_228) rfl (by decide +kernel) (by decide), ?_⟩
  refine List.forall_mem_cons.2 ⟨s_ifeq (off := 5) (by decide +kernel) (by decide), ?_⟩
  refine List.forall_mem_cons.2 ⟨s_iconst (k := 1) (by decide +kernel) (by decide +kernel), ?_⟩
  refine List.forall_mem_cons.2 ⟨s_ireturn (ty := .boolean) (by decide +kernel) rfl, ?_⟩
  refine List.forall_mem_cons.2 ⟨s_iconst (k := 0) (by decide +kernel) (by decide +kernel), ?_⟩
  refine List.forall_mem_cons.2 ⟨s_istore_n (k := 2) (by decide +kernel) rfl (by decide), ?_⟩
  refine List.forall_mem_cons.2 ⟨s_iload_n (k := 2) (by decide +kernel) rfl, ?_⟩
  refine List.forall_mem_cons.2 ⟨s_iload_n (k := 1) (by decide +kernel) rfl, ?_⟩
  refine List.forall_mem_cons.2 ⟨s_icmp_ge (off := 35) (by decide +kernel) (by decide), ?_⟩
  refine List.forall_mem_cons.2 ⟨s_aload_n (k := 0) (by decide +kernel) rfl, ?_⟩
  refine List.forall_mem_cons.2 ⟨s_getfield (C := q_n4) (T := q_T4) (N := 6) (idx := 18) (ref := "ProofDesk$Form") (by decide +kernel) rfl q_in4 (by decide) (x_up mw_192) rfl, ?_⟩
  refine List.forall_mem_cons.2 ⟨s_iload_n (k := 2) (by decide +kernel) rfl, ?_⟩
  refine List.forall_mem_cons.2 ⟨s_zald (by decide +kernel) rfl, ?_⟩
  refine List.forall_mem_cons.2 ⟨s_aload_n (k := 0) (by decide +kernel) rfl, ?_⟩
  refine List.forall_mem_cons.2 ⟨s_getfield (C := q_n4) (T := q_T4) (N := 6) (idx := 18) (ref := "ProofDesk$Form") (by decide +kernel) rfl q_in4 (by decide) (x_up mw_192) rfl, ?_⟩
  refine List.forall_mem_cons.2 ⟨s_iload_n (k := 1) (by decide +kernel) rfl, ?_⟩
  refine List.forall_mem_cons.2 ⟨s_zald (by decide +kernel) rfl, ?_⟩
  refine List.forall_mem_cons.2 ⟨s_icmp_eq (off := 14) (by decide +kernel) (by decide), ?_⟩
  refine List.forall_mem_cons.2 ⟨s_aload_n (k := 0) (by decide +kernel) rfl, ?_⟩
  refine List.forall_mem_cons.2 ⟨s_iload_n (k := 2) (by decide +kernel) rfl, ?_⟩
  refine List.forall_mem_cons.2 ⟨s_iload_n (k := 1) (by decide +kernel) rfl, ?_⟩
  refine List.forall_mem_cons.2 ⟨s_invokevirtual (idx := 48) (M := 18) (k := 2) (ci := 4) (C := q_n4) (T := q_T4) (N := 6) (ym := q_y18) (wm := q_w18) (by decide +kernel) rfl rfl rfl (x_gdV mw_207 mw_208 mw_209 mw_203 mw_206) rfl (by decide +kernel) (by decide), ?_⟩
  refine List.forall_mem_cons.2 ⟨s_ifeq (off := 5) (by decide +kernel) (by decide), ?_⟩
  exact fun _ h => absurd h List.not_mem_nil
def q_k24_1 : List (Nat × xO) := [(68, x_st (x_push 69 (.int (1)))), (69, x_ri (.boolean)), (70, x_iinc 73 2 (1)), (73, x_st (x_goto 39)), (76, x_iinc 79 1 (1)), (79, x_st (x_goto 2)), (82, x_st (x_push 83 (.int (0)))), (83, x_ri (.boolean))]
set_option maxRecDepth 100000 in
set_option maxHeartbeats 4000000 in
theorem q_s24_1 (l : Launch) (s0 : State) : ∀ q ∈ q_k24_1, x_Sim (x_K s0) none l q_y24 q_c24 3 (some .boolean) q_w24 q.1 q.2 := by
  unfold q_k24_1
  refine List.forall_mem_cons.2 ⟨s_iconst (k := 1) (by decide +kernel) (by decide +kernel), ?_⟩
  refine List.forall_mem_cons.2 ⟨s_ireturn (ty := .boolean) (by decide +kernel) rfl, ?_⟩
  refine List.forall_mem_cons.2 ⟨s_iinc (k := 1) (by decide +kernel) (by decide +kernel) (by decide), ?_⟩
  refine List.forall_mem_cons.2 ⟨s_goto (off := -34) (by decide +kernel) (by decide), ?_⟩
  refine List.forall_mem_cons.2 ⟨s_iinc (k := 1) (by decide +kernel) (by decide +kernel) (by decide), ?_⟩
  refine List.forall_mem_cons.2 ⟨s_goto (off := -77) (by decide +kernel) (by decide), ?_⟩
  refine List.forall_mem_cons.2 ⟨s_iconst (k := 0) (by decide +kernel) (by decide +kernel), ?_⟩
  refine List.forall_mem_cons.2 ⟨s_ireturn (ty := .boolean) (by decide +kernel) rfl, ?_⟩
  exact fun _ h => absurd h List.not_mem_nil
def q_k24 : List (Nat × xO) := q_k24_0 ++ q_k24_1
theorem q_s24 (l : Launch) (s0 : State) : ∀ q ∈ q_k24, x_Sim (x_K s0) none l q_y24 q_c24 3 (some .boolean) q_w24 q.1 q.2 := by
  intro q hq
  simp only [q_k24, List.mem_append] at hq
  rcases hq with h0 | h1
  · exact q_s24_0 l s0 q h0
  · exact q_s24_1 l s0 q h1
/-- ProofDesk$Form.hasSameSides(I)Z -/
def q_k25_0 : List (Nat × xO) := [(0, x_lda 1 0), (1, x_ldi 2 1), (2, x_cv 5 11 2 4), (5, x_st (x_push 6 (.int (1)))), (6, x_st (x_bin 7 (fun a b => a + b))), (7, x_sti 8 2), (8, x_lda 9 0), (9, x_ldi 10 2), (10, x_cv 13 20 2 4), (13, x_sti 14 3), (14, x_ldi 15 3), (15, x_ldi 16 2), (16, x_st (x_bin 17 (fun a b => a - b))), (17, x_lda 18 0), (18, x_gf 21 4 1), (21, x_ldi 22 1), (22, x_ald 23 0), (23, x_ldi 24 3), (24, x_st (x_bin 25 (fun a b => a - b))), (25, x_st (x_icne 44 28)), (28, x_lda 29 0), (29, x_ldi 30 2), (30, x_ldi 31 3), (31, x_ldi 32 3), (32, x_ldi 33 2), (33, x_st (x_bin 34 (fun a b => a - b))), (34, x_cv 37 19 4 4), (37, x_st (x_ifeq 44 40)), (40, x_st (x_push 41 (.int (1)))), (41, x_st (x_goto 45)), (44, x_st (x_push 45 (.int (0)))), (45, x_ri (.boolean))]
set_option maxRecDepth 100000 in
set_option maxHeartbeats 4000000 in
theorem q_s25_0 (l : Launch) (s0 : State) : ∀ q ∈ q_k25_0, x_Sim (x_K s0) none l q_y25 q_c25 4 (some .boolean) q_w25 q.1 q.2 := by
  unfold q_k25_0
  refine List.forall_mem_cons.2 ⟨s_aload_n (k := 0) (by decide +kernel) rfl, ?_⟩
  refine List.forall_mem_cons.2 ⟨s_iload_n (k := 1) (by decide +kernel) rfl, ?_⟩
  refine List.forall_mem_cons.2 ⟨s_invokevirtual (idx := 35) (M := 11) (k := 1) (ci := 4) (C := q_n4) (T := q_T4) (N := 6) (ym := q_y11) (wm := q_w11) (by decide +kernel) rfl rfl rfl (x_gdV mw_200 mw_201 mw_202 mw_203 mw_199) rfl (by decide +kernel) (by decide), ?_⟩
  refine List.forall_mem_cons.2 ⟨s_iconst (k := 1) (by decide +kernel) (by decide +kernel), ?_⟩
  refine List.forall_mem_cons.2 ⟨s_iadd (by decide +kernel), ?_⟩
  refine List.forall_mem_cons.2 ⟨s_istore_n (k := 2) (by decide +kernel) rfl (by decide), ?_⟩
  refine List.forall_mem_cons.2 ⟨s_aload_n (k := 0) (by decide +kernel) rfl, ?_⟩
  refine List.forall_mem_cons.2 ⟨s_iload_n (k := 2) (by decide +kernel) rfl, ?_⟩
  refine List.forall_mem_cons.2 ⟨s_invokevirtual (idx := 72) (M := 20) (k := 1) (ci := 4) (C := q_n4) (T := q_T4) (N := 6) (ym := q_y20) (wm := q_w20) (by decide +kernel) rfl rfl rfl (x_gdV mw_233 mw_234 mw_235 mw_203 mw_232) rfl (by decide +kernel) (by decide), ?_⟩
  refine List.forall_mem_cons.2 ⟨s_istore_n (k := 3) (by decide +kernel) rfl (by decide), ?_⟩
  refine List.forall_mem_cons.2 ⟨s_iload_n (k := 3) (by decide +kernel) rfl, ?_⟩
  refine List.forall_mem_cons.2 ⟨s_iload_n (k := 2) (by decide +kernel) rfl, ?_⟩
  refine List.forall_mem_cons.2 ⟨s_isub (by decide +kernel), ?_⟩
  refine List.forall_mem_cons.2 ⟨s_aload_n (k := 0) (by decide +kernel) rfl, ?_⟩
  refine List.forall_mem_cons.2 ⟨s_getfield (C := q_n4) (T := q_T4) (N := 6) (idx := 15) (ref := "ProofDesk$Form") (by decide +kernel) rfl q_in4 (by decide) (x_up mw_190) rfl, ?_⟩
  refine List.forall_mem_cons.2 ⟨s_iload_n (k := 1) (by decide +kernel) rfl, ?_⟩
  refine List.forall_mem_cons.2 ⟨s_iald (by decide +kernel) rfl, ?_⟩
  refine List.forall_mem_cons.2 ⟨s_iload_n (k := 3) (by decide +kernel) rfl, ?_⟩
  refine List.forall_mem_cons.2 ⟨s_isub (by decide +kernel), ?_⟩
  refine List.forall_mem_cons.2 ⟨s_icmp_ne (off := 19) (by decide +kernel) (by decide), ?_⟩
  refine List.forall_mem_cons.2 ⟨s_aload_n (k := 0) (by decide +kernel) rfl, ?_⟩
  refine List.forall_mem_cons.2 ⟨s_iload_n (k := 2) (by decide +kernel) rfl, ?_⟩
  refine List.forall_mem_cons.2 ⟨s_iload_n (k := 3) (by decide +kernel) rfl, ?_⟩
  refine List.forall_mem_cons.2 ⟨s_iload_n (k := 3) (by decide +kernel) rfl, ?_⟩
  refine List.forall_mem_cons.2 ⟨s_iload_n (k := 2) (by decide +kernel) rfl, ?_⟩
  refine List.forall_mem_cons.2 ⟨s_isub (by decide +kernel), ?_⟩
  refine List.forall_mem_cons.2 ⟨s_invokevirtual (idx := 52) (M := 19) (k := 3) (ci := 4) (C := q_n4) (T := q_T4) (N := 6) (ym := q_y19) (wm := q_w19) (by decide +kernel) rfl rfl rfl (x_gdV mw_211 mw_212 mw_213 mw_203 mw_210) rfl (by decide +kernel) (by decide), ?_⟩
  refine List.forall_mem_cons.2 ⟨s_ifeq (off := 7) (by decide +kernel) (by decide), ?_⟩
  refine List.forall_mem_cons.2 ⟨s_iconst (k := 1) (by decide +kernel) (by decide +kernel), ?_⟩
  refine List.forall_mem_cons.2 ⟨s_goto (off := 4) (by decide +kernel) (by decide), ?_⟩
  refine List.forall_mem_cons.2 ⟨s_iconst (k := 0) (by decide +kernel) (by decide +kernel), ?_⟩
  refine List.forall_mem_cons.2 ⟨s_ireturn (ty := .boolean) (by decide +kernel) rfl, ?_⟩
  exact fun _ h => absurd h List.not_mem_nil
def q_k25 : List (Nat × xO) := q_k25_0
theorem q_s25 (l : Launch) (s0 : State) : ∀ q ∈ q_k25, x_Sim (x_K s0) none l q_y25 q_c25 4 (some .boolean) q_w25 q.1 q.2 := q_s25_0 l s0
