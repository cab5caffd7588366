/-- java/util/Arrays.fill([II)V -/
def q_k148_0 : List (Nat × xO) := [(0, x_st (x_push 1 (.int (0)))), (1, x_sti 2 2), (2, x_lda 3 0), (3, x_aln 4 6), (4, x_sti 5 3), (5, x_ldi 6 2), (6, x_ldi 7 3), (7, x_st (x_icge 20 10)), (10, x_lda 11 0), (11, x_ldi 12 2), (12, x_ldi 13 1), (13, x_ast 14 0 (fun x => x)), (14, x_iinc 17 2 (1)), (17, x_st (x_goto 5)), (20, x_rv)]
set_option maxRecDepth 100000 in
set_option maxHeartbeats 4000000 in
theorem q_s148_0 (l : Launch) (s0 : State) : ∀ q ∈ q_k148_0, x_Sim (x_K s0) none l q_y148 q_c148 4 none q_w148 q.1 q.2 := by
  unfold q_k148_0
  refine List.forall_mem_cons.2 ⟨s_iconst (k := 0) (by decide +kernel) (by decide +kernel), ?_⟩
  refine List.forall_mem_cons.2 ⟨s_istore_n (k := 2) (by decide +kernel) rfl (by decide), ?_⟩
  refine List.forall_mem_cons.2 ⟨s_aload_n (k := 0) (by decide +kernel) rfl, ?_⟩
  refine List.forall_mem_cons.2 ⟨s_alen (by decide +kernel) 6 rfl, ?_⟩
  refine List.forall_mem_cons.2 ⟨s_istore_n (k := 3) (by decide +kernel) rfl (by decide), ?_⟩
  refine List.forall_mem_cons.2 ⟨s_iload_n (k := 2) (by decide +kernel) rfl, ?_⟩
  refine List.forall_mem_cons.2 ⟨s_iload_n (k := 3) (by decide +kernel) rfl, ?_⟩
  refine List.forall_mem_cons.2 ⟨s_icmp_ge (off := 13) (by decide +kernel) (by decide), ?_⟩
  refine List.forall_mem_cons.2 ⟨s_aload_n (k := 0) (by decide +kernel) rfl, ?_⟩
  refine List.forall_mem_cons.2 ⟨s_iload_n (k := 2) (by decide +kernel) rfl, ?_⟩
  refine List.forall_mem_cons.2 ⟨s_iload_n (k := 1) (by decide +kernel) rfl, ?_⟩
  refine List.forall_mem_cons.2 ⟨s_iast (by decide +kernel) rfl, ?_⟩
  refine List.forall_mem_cons.2 ⟨s_iinc (k := 1) (by decide +kernel) (by decide +kernel) (by decide), ?_⟩
  refine List.forall_mem_cons.2 ⟨s_goto (off := -12) (by decide +kernel) (by decide), ?_⟩
  refine List.forall_mem_cons.2 ⟨s_return (by decide +kernel) rfl, ?_⟩
  exact fun _ h => absurd h List.not_mem_nil
def q_k148 : List (Nat × xO) := q_k148_0
theorem q_s148 (l : Launch) (s0 : State) : ∀ q ∈ q_k148, x_Sim (x_K s0) none l q_y148 q_c148 4 none q_w148 q.1 q.2 := q_s148_0 l s0
/-- java/util/Arrays.copyOf([II)[I -/
def q_k149_0 : List (Nat × xO) := [(0, x_ldi 1 1), (1, x_lda 2 0), (2, x_aln 3 6), (3, x_st (x_icne 14 6)), (6, x_lda 7 0), (7, x_cln 10 0 (fun _ => true)), (10, x_cst 13 0), (13, x_ra), (14, x_ldi 15 1), (15, x_na 17 0), (17, x_sta 18 2), (18, x_lda 19 0), (19, x_st (x_push 20 (.int (0)))), (20, x_lda 21 2), (21, x_st (x_push 22 (.int (0)))), (22, x_lda 23 0), (23, x_aln 24 6), (24, x_ldi 25 1), (25, x_st (x_mm 28 (fun a b => if b < a then b else a))), (28, x_acp 31 0), (31, x_lda 32 2), (32, x_ra)]
set_option maxRecDepth 100000 in
set_option maxHeartbeats 4000000 in
theorem q_s149_0 (l : Launch) (s0 : State) : ∀ q ∈ q_k149_0, x_Sim (x_K s0) none l q_y149 q_c149 3 (some (.array .int)) q_w149 q.1 q.2 := by
  unfold q_k149_0
  refine List.forall_mem_cons.2 ⟨s_iload_n (k := 1) (by decide +kernel) rfl, ?_⟩
  refine List.forall_mem_cons.2 ⟨s_aload_n (k := 0) (by decide +kernel) rfl, ?_⟩
  refine List.forall_mem_cons.2 ⟨s_alen (by decide +kernel) 6 rfl, ?_⟩
  refine List.forall_mem_cons.2 ⟨s_icmp_ne (off := 11) (by decide +kernel) (by decide), ?_⟩
  refine List.forall_mem_cons.2 ⟨s_aload_n (k := 0) (by decide +kernel) rfl, ?_⟩
  refine List.forall_mem_cons.2 ⟨s_clone (idx := 316) (nm := "[I") (by decide +kernel) rfl (fun _ _ => rfl) (x_up mw_810) (x_up mw_811) (x_up mw_812) (x_up mw_813) (x_up mw_814) x_nw1 x_raI, ?_⟩
  refine List.forall_mem_cons.2 ⟨s_castA (idx := 317) (nm := "[I") (by decide +kernel) rfl (x_up mw_815) x_raI, ?_⟩
  refine List.forall_mem_cons.2 ⟨s_areturn (rt := .array .int) (by decide +kernel) rfl (Or.inr ⟨_, rfl⟩), ?_⟩
  refine List.forall_mem_cons.2 ⟨s_iload_n (k := 1) (by decide +kernel) rfl, ?_⟩
  refine List.forall_mem_cons.2 ⟨s_newarray (at0 := .int) (ty := .int) (by decide +kernel) rfl (x_up mw_180) rfl (by decide) rfl (fun _ _ h => h), ?_⟩
  refine List.forall_mem_cons.2 ⟨s_astore_n (k := 2) (by decide +kernel) rfl (by decide), ?_⟩
  refine List.forall_mem_cons.2 ⟨s_aload_n (k := 0) (by decide +kernel) rfl, ?_⟩
  refine List.forall_mem_cons.2 ⟨s_iconst (k := 0) (by decide +kernel) (by decide +kernel), ?_⟩
  refine List.forall_mem_cons.2 ⟨s_aload_n (k := 2) (by decide +kernel) rfl, ?_⟩
  refine List.forall_mem_cons.2 ⟨s_iconst (k := 0) (by decide +kernel) (by decide +kernel), ?_⟩
  refine List.forall_mem_cons.2 ⟨s_aload_n (k := 0) (by decide +kernel) rfl, ?_⟩
  refine List.forall_mem_cons.2 ⟨s_alen (by decide +kernel) 6 rfl, ?_⟩
  refine List.forall_mem_cons.2 ⟨s_iload_n (k := 1) (by decide +kernel) rfl, ?_⟩
  refine List.forall_mem_cons.2 ⟨s_mmin (idx := 304) (by decide +kernel) (x_up mw_816) (x_up mw_319) (x_up mw_320) (x_up mw_321), ?_⟩
  refine List.forall_mem_cons.2 ⟨s_acopy (idx := 150) (by decide +kernel) rfl (x_up mw_817) (x_up mw_284) (x_up mw_285) (x_up mw_286), ?_⟩
  refine List.forall_mem_cons.2 ⟨s_aload_n (k := 2) (by decide +kernel) rfl, ?_⟩
  refine List.forall_mem_cons.2 ⟨s_areturn (rt := .array .int) (by decide +kernel) rfl (Or.inr ⟨_, rfl⟩), ?_⟩
  exact fun _ h => absurd h List.not_mem_nil
def q_k149 : List (Nat × xO) := q_k149_0
theorem q_s149 (l : Launch) (s0 : State) : ∀ q ∈ q_k149, x_Sim (x_K s0) none l q_y149 q_c149 3 (some (.array .int)) q_w149 q.1 q.2 := q_s149_0 l s0
