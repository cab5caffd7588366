/-- ProofDesk$Symbol.ofLetter(CI)I -/
def q_k0_0 : List (Nat × xO) := [(0, x_st (x_push 1 (.int (4)))), (1, x_ldi 2 0), (2, x_st (x_push 4 (.int (97)))), (4, x_st (x_bin 5 (fun a b => a - b))), (5, x_st (x_bin 6 (fun a b => a * b))), (6, x_ldi 7 1), (7, x_st (x_bin 8 (fun a b => a + b))), (8, x_ri (.int))]
set_option maxRecDepth 100000 in
set_option maxHeartbeats 4000000 in
theorem q_s0_0 (l : Launch) (s0 : State) : ∀ q ∈ q_k0_0, x_Sim (x_K s0) none l q_y0 q_c0 2 (some .int) q_w0 q.1 q.2 := by
  unfold q_k0_0
  refine List.forall_mem_cons.2 ⟨s_iconst (k := 4) (by decide +kernel) (by decide +kernel), ?_⟩
  refine List.forall_mem_cons.2 ⟨s_iload_n (k := 0) (by decide +kernel) rfl, ?_⟩
  refine List.forall_mem_cons.2 ⟨s_bipush (k := 97) (by decide +kernel) (by decide +kernel), ?_⟩
  refine List.forall_mem_cons.2 ⟨s_isub (by decide +kernel), ?_⟩
  refine List.forall_mem_cons.2 ⟨s_imul (by decide +kernel), ?_⟩
  refine List.forall_mem_cons.2 ⟨s_iload_n (k := 1) (by decide +kernel) rfl, ?_⟩
  refine List.forall_mem_cons.2 ⟨s_iadd (by decide +kernel), ?_⟩
  refine List.forall_mem_cons.2 ⟨s_ireturn (ty := .int) (by decide +kernel) rfl, ?_⟩
  exact fun _ h => absurd h List.not_mem_nil
def q_k0 : List (Nat × xO) := q_k0_0
theorem q_s0 (l : Launch) (s0 : State) : ∀ q ∈ q_k0, x_Sim (x_K s0) none l q_y0 q_c0 2 (some .int) q_w0 q.1 q.2 := q_s0_0 l s0
/-- ProofDesk$Symbol.ofVariable(I)I -/
def q_k1_0 : List (Nat × xO) := [(0, x_st (x_push 3 (.int (128)))), (3, x_st (x_push 4 (.int (4)))), (4, x_ldi 5 0), (5, x_st (x_bin 6 (fun a b => a * b))), (6, x_st (x_bin 7 (fun a b => a + b))), (7, x_ri (.int))]
set_option maxRecDepth 100000 in
set_option maxHeartbeats 4000000 in
theorem q_s1_0 (l : Launch) (s0 : State) : ∀ q ∈ q_k1_0, x_Sim (x_K s0) none l q_y1 q_c1 1 (some .int) q_w1 q.1 q.2 := by
  unfold q_k1_0
  refine List.forall_mem_cons.2 ⟨s_sipush (k := 128) (by decide +kernel) (by decide +kernel), ?_⟩
  refine List.forall_mem_cons.2 ⟨s_iconst (k := 4) (by decide +kernel) (by decide +kernel), ?_⟩
  refine List.forall_mem_cons.2 ⟨s_iload_n (k := 0) (by decide +kernel) rfl, ?_⟩
  refine List.forall_mem_cons.2 ⟨s_imul (by decide +kernel), ?_⟩
  refine List.forall_mem_cons.2 ⟨s_iadd (by decide +kernel), ?_⟩
  refine List.forall_mem_cons.2 ⟨s_ireturn (ty := .int) (by decide +kernel) rfl, ?_⟩
  exact fun _ h => absurd h List.not_mem_nil
def q_k1 : List (Nat × xO) := q_k1_0
theorem q_s1 (l : Launch) (s0 : State) : ∀ q ∈ q_k1, x_Sim (x_K s0) none l q_y1 q_c1 1 (some .int) q_w1 q.1 q.2 := q_s1_0 l s0
/-- ProofDesk$Symbol.isVariable(I)Z -/
def q_k2_0 : List (Nat × xO) := [(0, x_ldi 1 0), (1, x_st (x_push 4 (.int (128)))), (4, x_st (x_iclt 11 7)), (7, x_st (x_push 8 (.int (1)))), (8, x_st (x_goto 12)), (11, x_st (x_push 12 (.int (0)))), (12, x_ri (.boolean))]
set_option maxRecDepth 100000 in
set_option maxHeartbeats 4000000 in
theorem q_s2_0 (l : Launch) (s0 : State) : ∀ q ∈ q_k2_0, x_Sim (x_K s0) none l q_y2 q_c2 1 (some .boolean) q_w2 q.1 q.2 := by
  unfold q_k2_0
  refine List.forall_mem_cons.2 ⟨s_iload_n (k := 0) (by decide +kernel) rfl, ?_⟩
  refine List.forall_mem_cons.2 ⟨s_sipush (k := 128) (by decide +kernel) (by decide +kernel), ?_⟩
  refine List.forall_mem_cons.2 ⟨s_icmp_lt (off := 7) (by decide +kernel) (by decide), ?_⟩
  refine List.forall_mem_cons.2 ⟨s_iconst (k := 1) (by decide +kernel) (by decide +kernel), ?_⟩
  refine List.forall_mem_cons.2 ⟨s_goto (off := 4) (by decide +kernel) (by decide), ?_⟩
  refine List.forall_mem_cons.2 ⟨s_iconst (k := 0) (by decide +kernel) (by decide +kernel), ?_⟩
  refine List.forall_mem_cons.2 ⟨s_ireturn (ty := .boolean) (by decide +kernel) rfl, ?_⟩
  exact fun _ h => absurd h List.not_mem_nil
def q_k2 : List (Nat × xO) := q_k2_0
theorem q_s2 (l : Launch) (s0 : State) : ∀ q ∈ q_k2, x_Sim (x_K s0) none l q_y2 q_c2 1 (some .boolean) q_w2 q.1 q.2 := q_s2_0 l s0
/-- ProofDesk$Symbol.variable(I)I -/
def q_k3_0 : List (Nat × xO) := [(0, x_ldi 1 0), (1, x_st (x_push 4 (.int (128)))), (4, x_st (x_bin 5 (fun a b => a - b))), (5, x_st (x_push 6 (.int (4)))), (6, x_st (x_div 7 (fun a b => a / b))), (7, x_ri (.int))]
set_option maxRecDepth 100000 in
set_option maxHeartbeats 4000000 in
theorem q_s3_0 (l : Launch) (s0 : State) : ∀ q ∈ q_k3_0, x_Sim (x_K s0) none l q_y3 q_c3 1 (some .int) q_w3 q.1 q.2 := by
  unfold q_k3_0
  refine List.forall_mem_cons.2 ⟨s_iload_n (k := 0) (by decide +kernel) rfl, ?_⟩
  refine List.forall_mem_cons.2 ⟨s_sipush (k := 128) (by decide +kernel) (by decide +kernel), ?_⟩
  refine List.forall_mem_cons.2 ⟨s_isub (by decide +kernel), ?_⟩
  refine List.forall_mem_cons.2 ⟨s_iconst (k := 4) (by decide +kernel) (by decide +kernel), ?_⟩
  refine List.forall_mem_cons.2 ⟨s_idiv (by decide +kernel), ?_⟩
  refine List.forall_mem_cons.2 ⟨s_ireturn (ty := .int) (by decide +kernel) rfl, ?_⟩
  exact fun _ h => absurd h List.not_mem_nil
def q_k3 : List (Nat × xO) := q_k3_0
theorem q_s3 (l : Launch) (s0 : State) : ∀ q ∈ q_k3, x_Sim (x_K s0) none l q_y3 q_c3 1 (some .int) q_w3 q.1 q.2 := q_s3_0 l s0
/-- ProofDesk$Symbol.name(I)I -/
def q_k4_0 : List (Nat × xO) := [(0, x_ldi 1 0), (1, x_st (x_push 2 (.int (4)))), (2, x_st (x_div 3 (fun a b => a / b))), (3, x_ri (.int))]
set_option maxRecDepth 100000 in
set_option maxHeartbeats 4000000 in
theorem q_s4_0 (l : Launch) (s0 : State) : ∀ q ∈ q_k4_0, x_Sim (x_K s0) none l q_y4 q_c4 1 (some .int) q_w4 q.1 q.2 := by
  unfold q_k4_0
  refine List.forall_mem_cons.2 ⟨s_iload_n (k := 0) (by decide +kernel) rfl, ?_⟩
  refine List.forall_mem_cons.2 ⟨s_iconst (k := 4) (by decide +kernel) (by decide +kernel), ?_⟩
  refine List.forall_mem_cons.2 ⟨s_idiv (by decide +kernel), ?_⟩
  refine List.forall_mem_cons.2 ⟨s_ireturn (ty := .int) (by decide +kernel) rfl, ?_⟩
  exact fun _ h => absurd h List.not_mem_nil
def q_k4 : List (Nat × xO) := q_k4_0
theorem q_s4 (l : Launch) (s0 : State) : ∀ q ∈ q_k4, x_Sim (x_K s0) none l q_y4 q_c4 1 (some .int) q_w4 q.1 q.2 := q_s4_0 l s0
/-- ProofDesk$Symbol.terms(I)I -/
def q_k5_0 : List (Nat × xO) := [(0, x_ldi 1 0), (1, x_st (x_push 2 (.int (4)))), (2, x_st (x_div 3 (fun a b => a - a / b * b))), (3, x_ri (.int))]
set_option maxRecDepth 100000 in
set_option maxHeartbeats 4000000 in
theorem q_s5_0 (l : Launch) (s0 : State) : ∀ q ∈ q_k5_0, x_Sim (x_K s0) none l q_y5 q_c5 1 (some .int) q_w5 q.1 q.2 := by
  unfold q_k5_0
  refine List.forall_mem_cons.2 ⟨s_iload_n (k := 0) (by decide +kernel) rfl, ?_⟩
  refine List.forall_mem_cons.2 ⟨s_iconst (k := 4) (by decide +kernel) (by decide +kernel), ?_⟩
  refine List.forall_mem_cons.2 ⟨s_irem (by decide +kernel), ?_⟩
  refine List.forall_mem_cons.2 ⟨s_ireturn (ty := .int) (by decide +kernel) rfl, ?_⟩
  exact fun _ h => absurd h List.not_mem_nil
def q_k5 : List (Nat × xO) := q_k5_0
theorem q_s5 (l : Launch) (s0 : State) : ∀ q ∈ q_k5, x_Sim (x_K s0) none l q_y5 q_c5 1 (some .int) q_w5 q.1 q.2 := q_s5_0 l s0
/-- ProofDesk$Symbol.character(I)C -/
def q_k6_0 : List (Nat × xO) := [(0, x_ldi 1 0), (1, x_cl_ 4 2 1), (4, x_st (x_ifeq 17 7)), (7, x_st (x_push 9 (.int (65)))), (9, x_ldi 10 0), (10, x_cl_ 13 3 1), (13, x_st (x_bin 14 (fun a b => a + b))), (14, x_st (x_goto 24)), (17, x_st (x_push 19 (.int (97)))), (19, x_ldi 20 0), (20, x_cl_ 23 4 1), (23, x_st (x_bin 24 (fun a b => a + b))), (24, x_st (x_un 25 (fun a => .int (a.toUInt32 % 65536).toInt32))), (25, x_ri (.char))]
set_option maxRecDepth 100000 in
set_option maxHeartbeats 4000000 in
theorem q_s6_0 (l : Launch) (s0 : State) : ∀ q ∈ q_k6_0, x_Sim (x_K s0) none l q_y6 q_c6 1 (some .char) q_w6 q.1 q.2 := by
  unfold q_k6_0
  refine List.forall_mem_cons.2 ⟨s_iload_n (k := 0) (by decide +kernel) rfl, ?_⟩
  refine List.forall_mem_cons.2 ⟨s_invokestatic (idx := 11) (M := 2) (ym := q_y2) (wm := q_w2) (by decide +kernel) rfl rfl (x_gdS mw_173 mw_174 mw_175 mw_172) rfl (by decide +kernel) (by decide), ?_⟩
  refine List.forall_mem_cons.2 ⟨s_ifeq (off := 13) (by decide +kernel) (by decide), ?_⟩
  refine List.forall_mem_cons.2 ⟨s_bipush (k := 65) (by decide +kernel) (by decide +kernel), ?_⟩
  refine List.forall_mem_cons.2 ⟨s_iload_n (k := 0) (by decide +kernel) rfl, ?_⟩
  refine List.forall_mem_cons.2 ⟨s_invokestatic (idx := 15) (M := 3) (ym := q_y3) (wm := q_w3) (by decide +kernel) rfl rfl (x_gdS mw_177 mw_178 mw_175 mw_176) rfl (by decide +kernel) (by decide), ?_⟩
  refine List.forall_mem_cons.2 ⟨s_iadd (by decide +kernel), ?_⟩
  refine List.forall_mem_cons.2 ⟨s_goto (off := 10) (by decide +kernel) (by decide), ?_⟩
  refine List.forall_mem_cons.2 ⟨s_bipush (k := 97) (by decide +kernel) (by decide +kernel), ?_⟩
  refine List.forall_mem_cons.2 ⟨s_iload_n (k := 0) (by decide +kernel) rfl, ?_⟩
  refine List.forall_mem_cons.2 ⟨s_invokestatic (idx := 19) (M := 4) (ym := q_y4) (wm := q_w4) (by decide +kernel) rfl rfl (x_gdS mw_180 mw_181 mw_175 mw_179) rfl (by decide +kernel) (by decide), ?_⟩
  refine List.forall_mem_cons.2 ⟨s_iadd (by decide +kernel), ?_⟩
  refine List.forall_mem_cons.2 ⟨s_i2c (by decide +kernel), ?_⟩
  refine List.forall_mem_cons.2 ⟨s_ireturn (ty := .char) (by decide +kernel) rfl, ?_⟩
  exact fun _ h => absurd h List.not_mem_nil
def q_k6 : List (Nat × xO) := q_k6_0
theorem q_s6 (l : Launch) (s0 : State) : ∀ q ∈ q_k6, x_Sim (x_K s0) none l q_y6 q_c6 1 (some .char) q_w6 q.1 q.2 := q_s6_0 l s0
/-- ProofDesk$Clause.<init>(LProofDesk$Form;IILjava/lang/String;)V -/
def q_k7_0 : List (Nat × xO) := [(0, x_lda 1 0), (1, x_st (x_oi 4)), (4, x_lda 5 0), (5, x_lda 6 1), (6, x_pf 9 1 0 (.object "ProofDesk$Form")), (9, x_lda 10 0), (10, x_ldi 11 2), (11, x_pf 14 1 1 (.int)), (14, x_lda 15 0), (15, x_ldi 16 3), (16, x_pf 19 1 2 (.int)), (19, x_lda 20 0), (20, x_lda 22 4), (22, x_pf 25 1 3 (.object "java/lang/String")), (25, x_rv)]
set_option maxRecDepth 100000 in
set_option maxHeartbeats 4000000 in
theorem q_s7_0 (l : Launch) (s0 : State) : ∀ q ∈ q_k7_0, x_Sim (x_K s0) none l q_y7 q_c7 5 none q_w7 q.1 q.2 := by
  unfold q_k7_0
  refine List.forall_mem_cons.2 ⟨s_aload_n (k := 0) (by decide +kernel) rfl, ?_⟩
  refine List.forall_mem_cons.2 ⟨s_objInit (idx := 1) (by decide +kernel) (x_up mw_182) (x_up mw_100) (x_up mw_obj), ?_⟩
  refine List.forall_mem_cons.2 ⟨s_aload_n (k := 0) (by decide +kernel) rfl, ?_⟩
  refine List.forall_mem_cons.2 ⟨s_aload_n (k := 1) (by decide +kernel) rfl, ?_⟩
  refine List.forall_mem_cons.2 ⟨s_putfieldF (C := q_n1) (T := q_T1) (N := 4) (idx := 7) q_t1 (by decide +kernel) rfl q_in1 q_ty1 q_nm1 (by decide) (x_up mw_183) rfl rfl (by decide +kernel) rfl, ?_⟩
  refine List.forall_mem_cons.2 ⟨s_aload_n (k := 0) (by decide +kernel) rfl, ?_⟩
  refine List.forall_mem_cons.2 ⟨s_iload_n (k := 2) (by decide +kernel) rfl, ?_⟩
  refine List.forall_mem_cons.2 ⟨s_putfieldF (C := q_n1) (T := q_T1) (N := 4) (idx := 13) q_t1 (by decide +kernel) rfl q_in1 q_ty1 q_nm1 (by decide) (x_up mw_184) rfl rfl (by decide +kernel) rfl, ?_⟩
  refine List.forall_mem_cons.2 ⟨s_aload_n (k := 0) (by decide +kernel) rfl, ?_⟩
  refine List.forall_mem_cons.2 ⟨s_iload_n (k := 3) (by decide +kernel) rfl, ?_⟩
  refine List.forall_mem_cons.2 ⟨s_putfieldF (C := q_n1) (T := q_T1) (N := 4) (idx := 17) q_t1 (by decide +kernel) rfl q_in1 q_ty1 q_nm1 (by decide) (x_up mw_185) rfl rfl (by decide +kernel) rfl, ?_⟩
  refine List.forall_mem_cons.2 ⟨s_aload_n (k := 0) (by decide +kernel) rfl, ?_⟩
  refine List.forall_mem_cons.2 ⟨s_aload (by decide +kernel), ?_⟩
  refine List.forall_mem_cons.2 ⟨s_putfieldF (C := q_n1) (T := q_T1) (N := 4) (idx := 20) q_t1 (by decide +kernel) rfl q_in1 q_ty1 q_nm1 (by decide) (x_up mw_186) rfl rfl (by decide +kernel) rfl, ?_⟩
  refine List.forall_mem_cons.2 ⟨s_return (by decide +kernel) rfl, ?_⟩
  exact fun _ h => absurd h List.not_mem_nil
def q_k7 : List (Nat × xO) := q_k7_0
theorem q_s7 (l : Launch) (s0 : State) : ∀ q ∈ q_k7, x_Sim (x_K s0) none l q_y7 q_c7 5 none q_w7 q.1 q.2 := q_s7_0 l s0
