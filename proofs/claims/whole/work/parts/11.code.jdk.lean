/-- java/util/Arrays.fill([II)V -/
def q_k148_0 : List (Nat × xO) := [(0, x_st (x_push 1 (.int (0)))), (1, x_sti 2 2), (2, x_lda 3 0), (3, x_aln 4 6), (4, x_sti 5 3), (5, x_ldi 6 2), (6, x_ldi 7 3), (7, x_st (x_icge 20 10)), (10, x_lda 11 0), (11, x_ldi 12 2), (12, x_ldi 13 1), (13, x_ast 14 0 (fun x => x)), (14, x_iinc 17 2 (1)), (17, x_st (x_goto 5)), (20, x_rv)]
set_option maxRecDepth 100000 in
set_option maxHeartbeats 4000000 in
theorem q_s148_0 (l : Launch) (s0 : State) : ∀ q ∈ q_k148_0, x_Sim (x_K s0) none l q_y148 q_c148 4 none q_w148 q.1 q.2 := by
  unfold q_k148_0
  refine List.forall_mem_cons.2 ⟨s_iconst (k := 0) (by decide +kernel) (by decide +kernel), ?_⟩
  refine List.forall_mem_cons.2 ⟨s_istore_n (k := 2) (by decide +kernel) rfl (by decide), ?_⟩
  refine List.forall_mem_cons.2 ⟨s_aload_n (k := 0) (by decide +kernel) rfl, ?_⟩
  refine List.forall_mem_cons.2 ⟨s_alen (by decide +kernel) 6 rfl, ?_⟩
  refine List.forall_mem_cons.2 ⟨s_istore_n (k := 3) (by decide +kernel) rfl (by decide), ?_⟩
  refine List.forall_mem_cons.2 ⟨s_iload_n (k := 2) (by decide +kernel) rfl, ?_⟩
  refine List.forall_mem_cons.2 ⟨s_iload_n (k := 3) (by decide +kernel) rfl, ?_⟩
  refine List.forall_mem_cons.2 ⟨s_icmp_ge (off := 13) (by decide +kernel) (by decide), ?_⟩
  refine List.forall_mem_cons.2 ⟨s_aload_n (k := 0) (by decide +kernel) rfl, ?_⟩
  refine List.forall_mem_cons.2 ⟨s_iload_n (k := 2) (by decide +kernel) rfl, ?_⟩
  refine List.forall_mem_cons.2 ⟨s_iload_n (k := 1) (by decide +kernel) rfl, ?_⟩
  refine List.forall_mem_cons.2 ⟨s_iast (by decide +kernel) rfl, ?_⟩
  refine List.forall_mem_cons.2 ⟨s_iinc (k := 1) (by decide +kernel) (by decide +kernel) (by decide), ?_⟩
  refine List.forall_mem_cons.2 ⟨s_goto (off := -12) (by decide +kernel) (by decide), ?_⟩
  refine List.forall_mem_cons.2 ⟨s_return (by decide +kernel) rfl, ?_⟩
  exact fun _ h => absurd h List.not_mem_nil
def q_k148 : List (Nat × xO) := q_k148_0
theorem q_s148 (l : Launch) (s0 : State) : ∀ q ∈ q_k148, x_Sim (x_K s0) none l q_y148 q_c148 4 none q_w148 q.1 q.2 := q_s148_0 l s0
/-- java/util/Arrays.copyOf([II)[I -/
def q_k149_0 : List (Nat × xO) := [(0, x_ldi 1 1), (1, x_lda 2 0), (2, x_aln 3 6), (3, x_st (x_icne 14 6)), (6, x_lda 7 0), (7, x_cln 10 0 (fun _ => true)), (10, x_cst 13 0), (13, x_ra), (14, x_ldi 15 1), (15, x_na 17 0), (17, x_sta 18 2), (18, x_lda 19 0), (19, x_st (x_push 20 (.int (0)))), (20, x_lda 21 2), (21, x_st (x_push 22 (.int (0)))), (22, x_lda 23 0), (23, x_aln 24 6), (24, x_ldi 25 1), (25, x_st (x_mm 28 (fun a b => if b < a then b else a))), (28, x_acp 31 0), (31, x_lda 32 2), (32, x_ra)]
set_option maxRecDepth 100000 in
set_option maxHeartbeats 4000000 in
theorem q_s149_0 (l : Launch) (s0 : State) : ∀ q ∈ q_k149_0, x_Sim (x_K s0) none l q_y149 q_c149 3 (some (.array .int)) q_w149 q.1 q.2 := by
  unfold q_k149_0
  refine List.forall_mem_cons.2 ⟨s_iload_n (k := 1) (by decide +kernel) rfl, ?_⟩
  refine List.forall_mem_cons.2 ⟨s_aload_n (k := 0) (by decide +kernel) rfl, ?_⟩
  refine List.forall_mem_cons.2 ⟨s_alen (by decide +kernel) 6 rfl, ?_⟩
  refine List.forall_mem_cons.2 ⟨s_icmp_ne (off := 11) (by decide +kernel) (by decide), ?_⟩
  refine List.forall_mem_cons.2 ⟨s_aload_n (k := 0) (by decide +kernel) rfl, ?_⟩
  refine List.forall_mem_cons.2 ⟨s_clone (idx := 316) (nm := "[I") (by decide +kernel) rfl (fun _ _ => rfl) (x_up mw_841) (x_up mw_842) (x_up mw_843) (x_up mw_844) (x_up mw_845) x_nw1 x_raI, ?_⟩
  refine List.forall_mem_cons.2 ⟨s_castA (idx := 317) (nm := "[I") (by decide +kernel) rfl (x_up mw_846) x_raI, ?_⟩
  refine List.forall_mem_cons.2 ⟨s_areturn (rt := .array .int) (by decide +kernel) rfl (Or.inr ⟨_, rfl⟩), ?_⟩
  refine List.forall_mem_cons.2 ⟨s_iload_n (k := 1) (by decide +kernel) rfl, ?_⟩
  refine List.forall_mem_cons.2 ⟨s_newarray (at0 := .int) (ty := .int) (by decide +kernel) rfl (x_up mw_188) rfl (by decide) rfl (fun _ _ h => h), ?_⟩
  refine List.forall_mem_cons.2 ⟨s_astore_n (k := 2) (by decide +kernel) rfl (by decide), ?_⟩
  refine List.forall_mem_cons.2 ⟨s_aload_n (k := 0) (by decide +kernel) rfl, ?_⟩
  refine List.forall_mem_cons.2 ⟨s_iconst (k := 0) (by decide +kernel) (by decide +kernel), ?_⟩
  refine List.forall_mem_cons.2 ⟨s_aload_n (k := 2) (by decide +kernel) rfl, ?_⟩
  refine List.forall_mem_cons.2 ⟨s_iconst (k := 0) (by decide +kernel) (by decide +kernel), ?_⟩
  refine List.forall_mem_cons.2 ⟨s_aload_n (k := 0) (by decide +kernel) rfl, ?_⟩
  refine List.forall_mem_cons.2 ⟨s_alen (by decide +kernel) 6 rfl, ?_⟩
  refine List.forall_mem_cons.2 ⟨s_iload_n (k := 1) (by decide +kernel) rfl, ?_⟩
  refine List.forall_mem_cons.2 ⟨s_mmin (idx := 304) (by decide +kernel) (x_up mw_847) (x_up mw_327) (x_up mw_328) (x_up mw_329), ?_⟩
  refine List.forall_mem_cons.2 ⟨s_acopy (idx := 150) (by decide +kernel) rfl (x_up mw_848) (x_up mw_292) (x_up mw_293) (x_up mw_294), ?_⟩
  refine List.forall_mem_cons.2 ⟨s_aload_n (k := 2) (by decide +kernel) rfl, ?_⟩
  refine List.forall_mem_cons.2 ⟨s_areturn (rt := .array .int) (by decide +kernel) rfl (Or.inr ⟨_, rfl⟩), ?_⟩
  exact fun _ h => absurd h List.not_mem_nil
def q_k149 : List (Nat × xO) := q_k149_0
theorem q_s149 (l : Launch) (s0 : State) : ∀ q ∈ q_k149, x_Sim (x_K s0) none l q_y149 q_c149 3 (some (.array .int)) q_w149 q.1 q.2 := q_s149_0 l s0
/-- java/lang/String.length()I -/
def q_k150_0 : List (Nat × xO) := [(0, x_lda 1 0), (1, x_gfV 4 13 0), (4, x_alnH 5 6), (5, x_lda 6 0), (6, x_cvH 9 151 1 13), (9, x_st (x_bin 10 (fun a b => a >>> (b &&& 31)))), (10, x_ri (.int))]
set_option maxRecDepth 100000 in
set_option maxHeartbeats 4000000 in
theorem q_s150_0 (l : Launch) (s0 : State) : ∀ q ∈ q_k150_0, x_Sim (x_K s0) none l q_y150 q_c150 1 (some .int) q_w150 q.1 q.2 := by
  unfold q_k150_0
  refine List.forall_mem_cons.2 ⟨s_aload_n (k := 0) (by decide +kernel) rfl, ?_⟩
  refine List.forall_mem_cons.2 ⟨s_gfV (idx := 9) (by decide +kernel) (x_up mw_849) (s_getfield (C := q_n13) (T := q_T13) (N := 4) (idx := 9) (ref := "java/lang/String") (by decide +kernel) rfl q_in13 (by decide) (x_up mw_849) rfl), ?_⟩
  refine List.forall_mem_cons.2 ⟨s_alenH (by decide +kernel) (s_alen (by decide +kernel) 6 rfl), ?_⟩
  refine List.forall_mem_cons.2 ⟨s_aload_n (k := 0) (by decide +kernel) rfl, ?_⟩
  refine List.forall_mem_cons.2 ⟨s_invokevirtualH (idx := 335) (M := 151) (k := 0) (ci := 13) (ym := q_y151) (wm := q_w151) (by decide +kernel) rfl rfl (x_gdV mw_851 mw_852 mw_853 mw_546 mw_850) rfl (by decide +kernel) (by decide) (s_invokevirtual (idx := 335) (M := 151) (k := 0) (ci := 13) (C := q_n13) (T := q_T13) (N := 4) (ym := q_y151) (wm := q_w151) (by decide +kernel) rfl rfl rfl (x_gdV mw_851 mw_852 mw_853 mw_546 mw_850) rfl (by decide +kernel) (by decide)), ?_⟩
  refine List.forall_mem_cons.2 ⟨s_ishr (by decide +kernel), ?_⟩
  refine List.forall_mem_cons.2 ⟨s_ireturn (ty := .int) (by decide +kernel) rfl, ?_⟩
  exact fun _ h => absurd h List.not_mem_nil
def q_k150 : List (Nat × xO) := q_k150_0
theorem q_s150 (l : Launch) (s0 : State) : ∀ q ∈ q_k150, x_Sim (x_K s0) none l q_y150 q_c150 1 (some .int) q_w150 q.1 q.2 := q_s150_0 l s0
/-- java/lang/String.coder()B -/
def q_k151_0 : List (Nat × xO) := [(0, x_st (x_push 3 (.int (1)))), (3, x_st (x_ifeq 13 6)), (6, x_lda 7 0), (7, x_gfC 10 13 1), (10, x_st (x_goto 14)), (13, x_st (x_push 14 (.int (1)))), (14, x_ri (.byte))]
set_option maxRecDepth 100000 in
set_option maxHeartbeats 4000000 in
theorem q_s151_0 (l : Launch) (s0 : State) (hZ : x_Zi "java/lang/String" "COMPACT_STRINGS" "Z" 1 s0) : ∀ q ∈ q_k151_0, x_Sim (x_K s0) none l q_y151 q_c151 1 (some .byte) q_w151 q.1 q.2 := by
  unfold q_k151_0
  refine List.forall_mem_cons.2 ⟨s_getsI (idx := 38) (C := "java/lang/String") (n := "COMPACT_STRINGS") (d := "Z") (z := 1) (by decide +kernel) (x_up mw_854) hZ, ?_⟩
  refine List.forall_mem_cons.2 ⟨s_ifeq (off := 10) (by decide +kernel) (by decide), ?_⟩
  refine List.forall_mem_cons.2 ⟨s_aload_n (k := 0) (by decide +kernel) rfl, ?_⟩
  refine List.forall_mem_cons.2 ⟨s_gfC (idx := 15) (by decide +kernel) (x_up mw_855) (s_getfield (C := q_n13) (T := q_T13) (N := 4) (idx := 15) (ref := "java/lang/String") (by decide +kernel) rfl q_in13 (by decide) (x_up mw_855) rfl), ?_⟩
  refine List.forall_mem_cons.2 ⟨s_goto (off := 4) (by decide +kernel) (by decide), ?_⟩
  refine List.forall_mem_cons.2 ⟨s_iconst (k := 1) (by decide +kernel) (by decide +kernel), ?_⟩
  refine List.forall_mem_cons.2 ⟨s_ireturn (ty := .byte) (by decide +kernel) rfl, ?_⟩
  exact fun _ h => absurd h List.not_mem_nil
def q_k151 : List (Nat × xO) := q_k151_0
theorem q_s151 (l : Launch) (s0 : State) (hZ : x_Zi "java/lang/String" "COMPACT_STRINGS" "Z" 1 s0) : ∀ q ∈ q_k151, x_Sim (x_K s0) none l q_y151 q_c151 1 (some .byte) q_w151 q.1 q.2 := q_s151_0 l s0 hZ
/-- java/lang/String.charAt(I)C -/
def q_k152_0 : List (Nat × xO) := [(0, x_lda 1 0), (1, x_cvH 4 153 1 13), (4, x_st (x_ifeq 16 7)), (7, x_lda 8 0), (8, x_gfV 11 13 0), (11, x_ldi 12 1), (12, x_cl_ 15 154 2), (15, x_ri (.char)), (16, x_lda 17 0), (17, x_gfV 20 13 0), (20, x_ldi 21 1), (21, fun _ _ => none), (24, x_ri (.char))]
set_option maxRecDepth 100000 in
set_option maxHeartbeats 4000000 in
theorem q_s152_0 (l : Launch) (s0 : State) : ∀ q ∈ q_k152_0, x_Sim (x_K s0) none l q_y152 q_c152 2 (some .char) q_w152 q.1 q.2 := by
  unfold q_k152_0
  refine List.forall_mem_cons.2 ⟨s_aload_n (k := 0) (by decide +kernel) rfl, ?_⟩
  refine List.forall_mem_cons.2 ⟨s_invokevirtualH (idx := 492) (M := 153) (k := 0) (ci := 13) (ym := q_y153) (wm := q_w153) (by decide +kernel) rfl rfl (x_gdV mw_857 mw_858 mw_859 mw_546 mw_856) rfl (by decide +kernel) (by decide) (s_invokevirtual (idx := 492) (M := 153) (k := 0) (ci := 13) (C := q_n13) (T := q_T13) (N := 4) (ym := q_y153) (wm := q_w153) (by decide +kernel) rfl rfl rfl (x_gdV mw_857 mw_858 mw_859 mw_546 mw_856) rfl (by decide +kernel) (by decide)), ?_⟩
  refine List.forall_mem_cons.2 ⟨s_ifeq (off := 12) (by decide +kernel) (by decide), ?_⟩
  refine List.forall_mem_cons.2 ⟨s_aload_n (k := 0) (by decide +kernel) rfl, ?_⟩
  refine List.forall_mem_cons.2 ⟨s_gfV (idx := 9) (by decide +kernel) (x_up mw_849) (s_getfield (C := q_n13) (T := q_T13) (N := 4) (idx := 9) (ref := "java/lang/String") (by decide +kernel) rfl q_in13 (by decide) (x_up mw_849) rfl), ?_⟩
  refine List.forall_mem_cons.2 ⟨s_iload_n (k := 1) (by decide +kernel) rfl, ?_⟩
  refine List.forall_mem_cons.2 ⟨s_invokestatic (idx := 495) (M := 154) (ym := q_y154) (wm := q_w154) (by decide +kernel) rfl rfl (x_gdS mw_861 mw_862 mw_863 mw_860) rfl (by decide +kernel) (by decide), ?_⟩
  refine List.forall_mem_cons.2 ⟨s_ireturn (ty := .char) (by decide +kernel) rfl, ?_⟩
  refine List.forall_mem_cons.2 ⟨s_aload_n (k := 0) (by decide +kernel) rfl, ?_⟩
  refine List.forall_mem_cons.2 ⟨s_gfV (idx := 9) (by decide +kernel) (x_up mw_849) (s_getfield (C := q_n13) (T := q_T13) (N := 4) (idx := 9) (ref := "java/lang/String") (by decide +kernel) rfl q_in13 (by decide) (x_up mw_849) rfl), ?_⟩
  refine List.forall_mem_cons.2 ⟨s_iload_n (k := 1) (by decide +kernel) rfl, ?_⟩
  refine List.forall_mem_cons.2 ⟨s_bad, ?_⟩
  refine List.forall_mem_cons.2 ⟨s_ireturn (ty := .char) (by decide +kernel) rfl, ?_⟩
  exact fun _ h => absurd h List.not_mem_nil
def q_k152 : List (Nat × xO) := q_k152_0
theorem q_s152 (l : Launch) (s0 : State) : ∀ q ∈ q_k152, x_Sim (x_K s0) none l q_y152 q_c152 2 (some .char) q_w152 q.1 q.2 := q_s152_0 l s0
/-- java/lang/String.isLatin1()Z -/
def q_k153_0 : List (Nat × xO) := [(0, x_st (x_push 3 (.int (1)))), (3, x_st (x_ifeq 17 6)), (6, x_lda 7 0), (7, x_gfC 10 13 1), (10, x_st (x_ifne 17 13)), (13, x_st (x_push 14 (.int (1)))), (14, x_st (x_goto 18)), (17, x_st (x_push 18 (.int (0)))), (18, x_ri (.boolean))]
set_option maxRecDepth 100000 in
set_option maxHeartbeats 4000000 in
theorem q_s153_0 (l : Launch) (s0 : State) (hZ : x_Zi "java/lang/String" "COMPACT_STRINGS" "Z" 1 s0) : ∀ q ∈ q_k153_0, x_Sim (x_K s0) none l q_y153 q_c153 1 (some .boolean) q_w153 q.1 q.2 := by
  unfold q_k153_0
  refine List.forall_mem_cons.2 ⟨s_getsI (idx := 38) (C := "java/lang/String") (n := "COMPACT_STRINGS") (d := "Z") (z := 1) (by decide +kernel) (x_up mw_854) hZ, ?_⟩
  refine List.forall_mem_cons.2 ⟨s_ifeq (off := 14) (by decide +kernel) (by decide), ?_⟩
  refine List.forall_mem_cons.2 ⟨s_aload_n (k := 0) (by decide +kernel) rfl, ?_⟩
  refine List.forall_mem_cons.2 ⟨s_gfC (idx := 15) (by decide +kernel) (x_up mw_855) (s_getfield (C := q_n13) (T := q_T13) (N := 4) (idx := 15) (ref := "java/lang/String") (by decide +kernel) rfl q_in13 (by decide) (x_up mw_855) rfl), ?_⟩
  refine List.forall_mem_cons.2 ⟨s_ifne (off := 7) (by decide +kernel) (by decide), ?_⟩
  refine List.forall_mem_cons.2 ⟨s_iconst (k := 1) (by decide +kernel) (by decide +kernel), ?_⟩
  refine List.forall_mem_cons.2 ⟨s_goto (off := 4) (by decide +kernel) (by decide), ?_⟩
  refine List.forall_mem_cons.2 ⟨s_iconst (k := 0) (by decide +kernel) (by decide +kernel), ?_⟩
  refine List.forall_mem_cons.2 ⟨s_ireturn (ty := .boolean) (by decide +kernel) rfl, ?_⟩
  exact fun _ h => absurd h List.not_mem_nil
def q_k153 : List (Nat × xO) := q_k153_0
theorem q_s153 (l : Launch) (s0 : State) (hZ : x_Zi "java/lang/String" "COMPACT_STRINGS" "Z" 1 s0) : ∀ q ∈ q_k153, x_Sim (x_K s0) none l q_y153 q_c153 1 (some .boolean) q_w153 q.1 q.2 := q_s153_0 l s0 hZ
/-- java/lang/StringLatin1.charAt([BI)C -/
def q_k154_0 : List (Nat × xO) := [(0, x_ldi 1 1), (1, x_lda 2 0), (2, x_alnH 3 6), (3, x_cl_ 6 155 2), (6, x_lda 7 0), (7, x_ldi 8 1), (8, x_aldH 9 5), (9, x_st (x_push 12 (.int (255)))), (12, x_st (x_bin 13 (fun a b => a &&& b))), (13, x_st (x_un 14 (fun a => .int (a.toUInt32 % 65536).toInt32))), (14, x_ri (.char))]
set_option maxRecDepth 100000 in
set_option maxHeartbeats 4000000 in
theorem q_s154_0 (l : Launch) (s0 : State) : ∀ q ∈ q_k154_0, x_Sim (x_K s0) none l q_y154 q_c154 2 (some .char) q_w154 q.1 q.2 := by
  unfold q_k154_0
  refine List.forall_mem_cons.2 ⟨s_iload_n (k := 1) (by decide +kernel) rfl, ?_⟩
  refine List.forall_mem_cons.2 ⟨s_aload_n (k := 0) (by decide +kernel) rfl, ?_⟩
  refine List.forall_mem_cons.2 ⟨s_alenH (by decide +kernel) (s_alen (by decide +kernel) 6 rfl), ?_⟩
  refine List.forall_mem_cons.2 ⟨s_invokestatic (idx := 9) (M := 155) (ym := q_y155) (wm := q_w155) (by decide +kernel) rfl rfl (x_gdS mw_865 mw_866 mw_546 mw_864) rfl (by decide +kernel) (by decide), ?_⟩
  refine List.forall_mem_cons.2 ⟨s_aload_n (k := 0) (by decide +kernel) rfl, ?_⟩
  refine List.forall_mem_cons.2 ⟨s_iload_n (k := 1) (by decide +kernel) rfl, ?_⟩
  refine List.forall_mem_cons.2 ⟨s_baldH (by decide +kernel) (s_bald (by decide +kernel) rfl), ?_⟩
  refine List.forall_mem_cons.2 ⟨s_sipush (k := 255) (by decide +kernel) (by decide +kernel), ?_⟩
  refine List.forall_mem_cons.2 ⟨s_iand (by decide +kernel), ?_⟩
  refine List.forall_mem_cons.2 ⟨s_i2c (by decide +kernel), ?_⟩
  refine List.forall_mem_cons.2 ⟨s_ireturn (ty := .char) (by decide +kernel) rfl, ?_⟩
  exact fun _ h => absurd h List.not_mem_nil
def q_k154 : List (Nat × xO) := q_k154_0
theorem q_s154 (l : Launch) (s0 : State) : ∀ q ∈ q_k154, x_Sim (x_K s0) none l q_y154 q_c154 2 (some .char) q_w154 q.1 q.2 := q_s154_0 l s0
/-- java/lang/String.checkIndex(II)V -/
def q_k155_0 : List (Nat × xO) := [(0, x_ldi 1 0), (1, x_ldi 2 1), (2, x_st (x_push 5 (.retAddr 0))), (5, x_cl_ 8 156 3), (8, x_st (x_pop 9)), (9, x_rv)]
set_option maxRecDepth 100000 in
set_option maxHeartbeats 4000000 in
theorem q_s155_0 (l : Launch) (s0 : State) : ∀ q ∈ q_k155_0, x_Sim (x_K s0) none l q_y155 q_c155 2 none q_w155 q.1 q.2 := by
  unfold q_k155_0
  refine List.forall_mem_cons.2 ⟨s_iload_n (k := 0) (by decide +kernel) rfl, ?_⟩
  refine List.forall_mem_cons.2 ⟨s_iload_n (k := 1) (by decide +kernel) rfl, ?_⟩
  refine List.forall_mem_cons.2 ⟨s_getsF (idx := 1053) (by decide +kernel) (x_up mw_867), ?_⟩
  refine List.forall_mem_cons.2 ⟨s_invokestatic (idx := 1059) (M := 156) (ym := q_y156) (wm := q_w156) (by decide +kernel) rfl rfl (x_gdS mw_869 mw_870 mw_871 mw_868) rfl (by decide +kernel) (by decide), ?_⟩
  refine List.forall_mem_cons.2 ⟨s_pop (by decide +kernel), ?_⟩
  refine List.forall_mem_cons.2 ⟨s_return (by decide +kernel) rfl, ?_⟩
  exact fun _ h => absurd h List.not_mem_nil
def q_k155 : List (Nat × xO) := q_k155_0
theorem q_s155 (l : Launch) (s0 : State) : ∀ q ∈ q_k155, x_Sim (x_K s0) none l q_y155 q_c155 2 none q_w155 q.1 q.2 := q_s155_0 l s0
/-- jdk/internal/util/Preconditions.checkIndex(IILjava/util/function/BiFunction;)I -/
def q_k156_0 : List (Nat × xO) := [(0, x_ldi 1 0), (1, x_st (x_iflt 9 4)), (4, x_ldi 5 0), (5, x_ldi 6 1), (6, x_st (x_iclt 16 9)), (9, x_lda 10 2), (10, x_ldi 11 0), (11, x_ldi 12 1), (12, fun _ _ => none), (15, fun _ _ => none), (16, x_ldi 17 0), (17, x_ri (.int))]
set_option maxRecDepth 100000 in
set_option maxHeartbeats 4000000 in
theorem q_s156_0 (l : Launch) (s0 : State) : ∀ q ∈ q_k156_0, x_Sim (x_K s0) none l q_y156 q_c156 3 (some .int) q_w156 q.1 q.2 := by
  unfold q_k156_0
  refine List.forall_mem_cons.2 ⟨s_iload_n (k := 0) (by decide +kernel) rfl, ?_⟩
  refine List.forall_mem_cons.2 ⟨s_iflt (off := 8) (by decide +kernel) (by decide), ?_⟩
  refine List.forall_mem_cons.2 ⟨s_iload_n (k := 0) (by decide +kernel) rfl, ?_⟩
  refine List.forall_mem_cons.2 ⟨s_iload_n (k := 1) (by decide +kernel) rfl, ?_⟩
  refine List.forall_mem_cons.2 ⟨s_icmp_lt (off := 10) (by decide +kernel) (by decide), ?_⟩
  refine List.forall_mem_cons.2 ⟨s_aload_n (k := 2) (by decide +kernel) rfl, ?_⟩
  refine List.forall_mem_cons.2 ⟨s_iload_n (k := 0) (by decide +kernel) rfl, ?_⟩
  refine List.forall_mem_cons.2 ⟨s_iload_n (k := 1) (by decide +kernel) rfl, ?_⟩
  refine List.forall_mem_cons.2 ⟨s_bad, ?_⟩
  refine List.forall_mem_cons.2 ⟨s_bad, ?_⟩
  refine List.forall_mem_cons.2 ⟨s_iload_n (k := 0) (by decide +kernel) rfl, ?_⟩
  refine List.forall_mem_cons.2 ⟨s_ireturn (ty := .int) (by decide +kernel) rfl, ?_⟩
  exact fun _ h => absurd h List.not_mem_nil
def q_k156 : List (Nat × xO) := q_k156_0
theorem q_s156 (l : Launch) (s0 : State) : ∀ q ∈ q_k156, x_Sim (x_K s0) none l q_y156 q_c156 3 (some .int) q_w156 q.1 q.2 := q_s156_0 l s0
/-- java/lang/StringBuilder.<init>()V -/
def q_k157_0 : List (Nat × xO) := [(0, x_lda 1 0), (1, x_st (x_push 3 (.int (16)))), (3, x_cs 6 158 2), (6, x_rv)]
set_option maxRecDepth 100000 in
set_option maxHeartbeats 4000000 in
theorem q_s157_0 (l : Launch) (s0 : State) : ∀ q ∈ q_k157_0, x_Sim (x_K s0) none l q_y157 q_c157 1 none q_w157 q.1 q.2 := by
  unfold q_k157_0
  refine List.forall_mem_cons.2 ⟨s_aload_n (k := 0) (by decide +kernel) rfl, ?_⟩
  refine List.forall_mem_cons.2 ⟨s_bipush (k := 16) (by decide +kernel) (by decide +kernel), ?_⟩
  refine List.forall_mem_cons.2 ⟨s_invokespecial (idx := 1) (M := 158) (k := 1) (ym := q_y158) (wm := q_w158) (by decide +kernel) rfl rfl (x_gd1 mw_872) (x_up mw_873) (x_up mw_874) (x_up mw_875) rfl rfl (by decide +kernel) (by decide), ?_⟩
  refine List.forall_mem_cons.2 ⟨s_return (by decide +kernel) rfl, ?_⟩
  exact fun _ h => absurd h List.not_mem_nil
def q_k157 : List (Nat × xO) := q_k157_0
theorem q_s157 (l : Launch) (s0 : State) : ∀ q ∈ q_k157, x_Sim (x_K s0) none l q_y157 q_c157 1 none q_w157 q.1 q.2 := q_s157_0 l s0
/-- java/lang/AbstractStringBuilder.<init>(I)V -/
def q_k158_0 : List (Nat × xO) := [(0, x_lda 1 0), (1, x_st (x_oi 4)), (4, x_st (x_push 7 (.int (1)))), (7, x_st (x_ifeq 25 10)), (10, x_lda 11 0), (11, x_ldi 12 1), (12, x_na 14 5), (14, x_pf 17 14 0 (.array .byte)), (17, x_lda 18 0), (18, x_st (x_push 19 (.int (0)))), (19, x_pf 22 14 1 (.byte)), (22, x_st (x_goto 38)), (25, x_lda 26 0), (26, x_ldi 27 1), (27, fun _ _ => none), (30, x_pf 33 14 0 (.array .byte)), (33, x_lda 34 0), (34, x_st (x_push 35 (.int (1)))), (35, x_pf 38 14 1 (.byte)), (38, x_rv)]
set_option maxRecDepth 100000 in
set_option maxHeartbeats 4000000 in
theorem q_s158_0 (l : Launch) (s0 : State) (hZ : x_Zi "java/lang/String" "COMPACT_STRINGS" "Z" 1 s0) : ∀ q ∈ q_k158_0, x_Sim (x_K s0) none l q_y158 q_c158 2 none q_w158 q.1 q.2 := by
  unfold q_k158_0
  refine List.forall_mem_cons.2 ⟨s_aload_n (k := 0) (by decide +kernel) rfl, ?_⟩
  refine List.forall_mem_cons.2 ⟨s_objInit (idx := 3) (by decide +kernel) (x_up mw_876) (x_up mw_100) (x_up mw_obj), ?_⟩
  refine List.forall_mem_cons.2 ⟨s_getsI (idx := 18) (C := "java/lang/String") (n := "COMPACT_STRINGS") (d := "Z") (z := 1) (by decide +kernel) (x_up mw_877) hZ, ?_⟩
  refine List.forall_mem_cons.2 ⟨s_ifeq (off := 18) (by decide +kernel) (by decide), ?_⟩
  refine List.forall_mem_cons.2 ⟨s_aload_n (k := 0) (by decide +kernel) rfl, ?_⟩
  refine List.forall_mem_cons.2 ⟨s_iload_n (k := 1) (by decide +kernel) rfl, ?_⟩
  refine List.forall_mem_cons.2 ⟨s_newarray (at0 := .byte) (ty := .byte) (by decide +kernel) rfl (x_up mw_878) rfl (by decide) rfl (fun _ _ h => h), ?_⟩
  refine List.forall_mem_cons.2 ⟨s_putfield (C := q_n14) (T := q_T14) (N := 4) (idx := 15) (ref := "java/lang/AbstractStringBuilder") q_t14 (by decide +kernel) rfl q_in14 q_ty14 q_nm14 (by decide) (x_up mw_879) rfl rfl (by decide +kernel), ?_⟩
  refine List.forall_mem_cons.2 ⟨s_aload_n (k := 0) (by decide +kernel) rfl, ?_⟩
  refine List.forall_mem_cons.2 ⟨s_iconst (k := 0) (by decide +kernel) (by decide +kernel), ?_⟩
  refine List.forall_mem_cons.2 ⟨s_putfield (C := q_n14) (T := q_T14) (N := 4) (idx := 22) (ref := "java/lang/AbstractStringBuilder") q_t14 (by decide +kernel) rfl q_in14 q_ty14 q_nm14 (by decide) (x_up mw_880) rfl rfl (by decide +kernel), ?_⟩
  refine List.forall_mem_cons.2 ⟨s_goto (off := 16) (by decide +kernel) (by decide), ?_⟩
  refine List.forall_mem_cons.2 ⟨s_aload_n (k := 0) (by decide +kernel) rfl, ?_⟩
  refine List.forall_mem_cons.2 ⟨s_iload_n (k := 1) (by decide +kernel) rfl, ?_⟩
  refine List.forall_mem_cons.2 ⟨s_bad, ?_⟩
  refine List.forall_mem_cons.2 ⟨s_putfield (C := q_n14) (T := q_T14) (N := 4) (idx := 15) (ref := "java/lang/AbstractStringBuilder") q_t14 (by decide +kernel) rfl q_in14 q_ty14 q_nm14 (by decide) (x_up mw_879) rfl rfl (by decide +kernel), ?_⟩
  refine List.forall_mem_cons.2 ⟨s_aload_n (k := 0) (by decide +kernel) rfl, ?_⟩
  refine List.forall_mem_cons.2 ⟨s_iconst (k := 1) (by decide +kernel) (by decide +kernel), ?_⟩
  refine List.forall_mem_cons.2 ⟨s_putfield (C := q_n14) (T := q_T14) (N := 4) (idx := 22) (ref := "java/lang/AbstractStringBuilder") q_t14 (by decide +kernel) rfl q_in14 q_ty14 q_nm14 (by decide) (x_up mw_880) rfl rfl (by decide +kernel), ?_⟩
  refine List.forall_mem_cons.2 ⟨s_return (by decide +kernel) rfl, ?_⟩
  exact fun _ h => absurd h List.not_mem_nil
def q_k158 : List (Nat × xO) := q_k158_0
theorem q_s158 (l : Launch) (s0 : State) (hZ : x_Zi "java/lang/String" "COMPACT_STRINGS" "Z" 1 s0) : ∀ q ∈ q_k158, x_Sim (x_K s0) none l q_y158 q_c158 2 none q_w158 q.1 q.2 := q_s158_0 l s0 hZ
/-- java/lang/StringBuilder.append(C)Ljava/lang/StringBuilder; -/
def q_k159_0 : List (Nat × xO) := [(0, x_lda 1 0), (1, x_ldi 2 1), (2, x_cv 5 160 2 14), (5, x_st (x_pop 6)), (6, x_lda 7 0), (7, x_ra)]
set_option maxRecDepth 100000 in
set_option maxHeartbeats 4000000 in
theorem q_s159_0 (l : Launch) (s0 : State) : ∀ q ∈ q_k159_0, x_Sim (x_K s0) none l q_y159 q_c159 2 (some (.object "java/lang/StringBuilder")) q_w159 q.1 q.2 := by
  unfold q_k159_0
  refine List.forall_mem_cons.2 ⟨s_aload_n (k := 0) (by decide +kernel) rfl, ?_⟩
  refine List.forall_mem_cons.2 ⟨s_iload_n (k := 1) (by decide +kernel) rfl, ?_⟩
  refine List.forall_mem_cons.2 ⟨s_super (idx := 50) (M := 160) (k := 1) (ci := 14) (C := q_n14) (T := q_T14) (N := 4) (ym := q_y160) (wm := q_w160) (by decide +kernel) rfl rfl rfl (x_gd (List.forall_mem_cons.2 ⟨mw_882, List.forall_mem_cons.2 ⟨mw_883, List.forall_mem_cons.2 ⟨mw_884, List.forall_mem_cons.2 ⟨mw_885, List.forall_mem_cons.2 ⟨mw_875, List.forall_mem_cons.2 ⟨mw_881, fun _ h => h⟩⟩⟩⟩⟩⟩)) rfl (by decide +kernel) (by decide), ?_⟩
  refine List.forall_mem_cons.2 ⟨s_pop (by decide +kernel), ?_⟩
  refine List.forall_mem_cons.2 ⟨s_aload_n (k := 0) (by decide +kernel) rfl, ?_⟩
  refine List.forall_mem_cons.2 ⟨s_areturn (rt := .object "java/lang/StringBuilder") (by decide +kernel) rfl (Or.inl ⟨_, rfl⟩), ?_⟩
  exact fun _ h => absurd h List.not_mem_nil
def q_k159 : List (Nat × xO) := q_k159_0
theorem q_s159 (l : Launch) (s0 : State) : ∀ q ∈ q_k159, x_Sim (x_K s0) none l q_y159 q_c159 2 (some (.object "java/lang/StringBuilder")) q_w159 q.1 q.2 := q_s159_0 l s0
/-- java/lang/AbstractStringBuilder.append(C)Ljava/lang/AbstractStringBuilder; -/
def q_k160_0 : List (Nat × xO) := [(0, x_lda 1 0), (1, x_lda 2 0), (2, x_gf 5 14 3), (5, x_st (x_push 6 (.int (1)))), (6, x_st (x_bin 7 (fun a b => a + b))), (7, x_cv 10 161 2 14), (10, x_lda 11 0), (11, x_cv 14 165 1 14), (14, x_st (x_ifeq 45 17)), (17, x_ldi 18 1), (18, x_cl_ 21 166 1), (21, x_st (x_ifeq 45 24)), (24, x_lda 25 0), (25, x_gf 28 14 0), (28, x_lda 29 0), (29, x_st (x_dup 30)), (30, x_gf 33 14 3), (33, x_st (x_dupx1 34)), (34, x_st (x_push 35 (.int (1)))), (35, x_st (x_bin 36 (fun a b => a + b))), (36, x_pf 39 14 3 (.int)), (39, x_ldi 40 1), (40, x_st (x_un 41 (fun a => .int a.toInt8.toInt32))), (41, x_ast 42 5 (fun x => vp_nar .byte x)), (42, x_st (x_goto 75)), (45, x_lda 46 0), (46, x_cv 49 165 1 14), (49, x_st (x_ifeq 56 52)), (52, x_lda 53 0), (53, fun _ _ => none), (56, x_lda 57 0), (57, x_gf 60 14 0), (60, x_lda 61 0), (61, x_st (x_dup 62)), (62, x_gf 65 14 3), (65, x_st (x_dupx1 66)), (66, x_st (x_push 67 (.int (1)))), (67, x_st (x_bin 68 (fun a b => a + b))), (68, x_pf 71 14 3 (.int)), (71, x_ldi 72 1)]
set_option maxRecDepth 100000 in
set_option maxHeartbeats 4000000 in
theorem q_s160_0 (l : Launch) (s0 : State) (hP : ∀ w ∈ x_pm, w.before #[] s0 = true) : ∀ q ∈ q_k160_0, x_Sim (x_K s0) none l q_y160 q_c160 2 (some (.object "java/lang/AbstractStringBuilder")) q_w160 q.1 q.2 := by
  unfold q_k160_0
  refine List.forall_mem_cons.2 ⟨s_aload_n (k := 0) (by decide +kernel) rfl, ?_⟩
  refine List.forall_mem_cons.2 ⟨s_aload_n (k := 0) (by decide +kernel) rfl, ?_⟩
  refine List.forall_mem_cons.2 ⟨s_getfield (C := q_n14) (T := q_T14) (N := 4) (idx := 79) (ref := "java/lang/AbstractStringBuilder") (by decide +kernel) rfl q_in14 (by decide) (x_up mw_886) rfl, ?_⟩
  refine List.forall_mem_cons.2 ⟨s_iconst (k := 1) (by decide +kernel) (by decide +kernel), ?_⟩
  refine List.forall_mem_cons.2 ⟨s_iadd (by decide +kernel), ?_⟩
  refine List.forall_mem_cons.2 ⟨s_invokevirtualP (idx := 100) (M := 161) (k := 1) (ci := 14) (C := q_n14) (T := q_T14) (N := 4) (ym := q_y161) (wm := q_w161) (by decide +kernel) rfl rfl rfl (x_gd1 mw_887) (x_up mw_888) (x_up mw_889) (x_up mw_890) (hP _ x_pm0) (x_up mw_875) rfl (by decide +kernel) (by decide), ?_⟩
  refine List.forall_mem_cons.2 ⟨s_aload_n (k := 0) (by decide +kernel) rfl, ?_⟩
  refine List.forall_mem_cons.2 ⟨s_invokevirtualU (idx := 83) (M := 165) (k := 0) (ci := 14) (C := q_n14) (T := q_T14) (N := 4) (owner := "java/lang/AbstractStringBuilder") (xm := q_y165) (ym := q_y165) (wm := q_w165) (by decide +kernel) rfl rfl rfl (x_gd (List.forall_mem_cons.2 ⟨mw_892, List.forall_mem_cons.2 ⟨mw_893, List.forall_mem_cons.2 ⟨mw_894, List.forall_mem_cons.2 ⟨mw_895, List.forall_mem_cons.2 ⟨mw_875, List.forall_mem_cons.2 ⟨mw_891, fun _ h => h⟩⟩⟩⟩⟩⟩)) rfl rfl (by decide +kernel) (by decide), ?_⟩
  refine List.forall_mem_cons.2 ⟨s_ifeq (off := 31) (by decide +kernel) (by decide), ?_⟩
  refine List.forall_mem_cons.2 ⟨s_iload_n (k := 1) (by decide +kernel) rfl, ?_⟩
  refine List.forall_mem_cons.2 ⟨s_invokestatic (idx := 191) (M := 166) (ym := q_y166) (wm := q_w166) (by decide +kernel) rfl rfl (x_gdS mw_897 mw_898 mw_863 mw_896) rfl (by decide +kernel) (by decide), ?_⟩
  refine List.forall_mem_cons.2 ⟨s_ifeq (off := 24) (by decide +kernel) (by decide), ?_⟩
  refine List.forall_mem_cons.2 ⟨s_aload_n (k := 0) (by decide +kernel) rfl, ?_⟩
  refine List.forall_mem_cons.2 ⟨s_getfield (C := q_n14) (T := q_T14) (N := 4) (idx := 15) (ref := "java/lang/AbstractStringBuilder") (by decide +kernel) rfl q_in14 (by decide) (x_up mw_879) rfl, ?_⟩
  refine List.forall_mem_cons.2 ⟨s_aload_n (k := 0) (by decide +kernel) rfl, ?_⟩
  refine List.forall_mem_cons.2 ⟨s_dup (by decide +kernel), ?_⟩
  refine List.forall_mem_cons.2 ⟨s_getfield (C := q_n14) (T := q_T14) (N := 4) (idx := 79) (ref := "java/lang/AbstractStringBuilder") (by decide +kernel) rfl q_in14 (by decide) (x_up mw_886) rfl, ?_⟩
  refine List.forall_mem_cons.2 ⟨s_dup_x1 (by decide +kernel), ?_⟩
  refine List.forall_mem_cons.2 ⟨s_iconst (k := 1) (by decide +kernel) (by decide +kernel), ?_⟩
  refine List.forall_mem_cons.2 ⟨s_iadd (by decide +kernel), ?_⟩
  refine List.forall_mem_cons.2 ⟨s_putfield (C := q_n14) (T := q_T14) (N := 4) (idx := 79) (ref := "java/lang/AbstractStringBuilder") q_t14 (by decide +kernel) rfl q_in14 q_ty14 q_nm14 (by decide) (x_up mw_886) rfl rfl (by decide +kernel), ?_⟩
  refine List.forall_mem_cons.2 ⟨s_iload_n (k := 1) (by decide +kernel) rfl, ?_⟩
  refine List.forall_mem_cons.2 ⟨s_i2b (by decide +kernel), ?_⟩
  refine List.forall_mem_cons.2 ⟨s_bast (by decide +kernel) rfl, ?_⟩
  refine List.forall_mem_cons.2 ⟨s_goto (off := 33) (by decide +kernel) (by decide), ?_⟩
  refine List.forall_mem_cons.2 ⟨s_aload_n (k := 0) (by decide +kernel) rfl, ?_⟩
  refine List.forall_mem_cons.2 ⟨s_invokevirtualU (idx := 83) (M := 165) (k := 0) (ci := 14) (C := q_n14) (T := q_T14) (N := 4) (owner := "java/lang/AbstractStringBuilder") (xm := q_y165) (ym := q_y165) (wm := q_w165) (by decide +kernel) rfl rfl rfl (x_gd (List.forall_mem_cons.2 ⟨mw_892, List.forall_mem_cons.2 ⟨mw_893, List.forall_mem_cons.2 ⟨mw_894, List.forall_mem_cons.2 ⟨mw_895, List.forall_mem_cons.2 ⟨mw_875, List.forall_mem_cons.2 ⟨mw_891, fun _ h => h⟩⟩⟩⟩⟩⟩)) rfl rfl (by decide +kernel) (by decide), ?_⟩
  refine List.forall_mem_cons.2 ⟨s_ifeq (off := 7) (by decide +kernel) (by decide), ?_⟩
  refine List.forall_mem_cons.2 ⟨s_aload_n (k := 0) (by decide +kernel) rfl, ?_⟩
  refine List.forall_mem_cons.2 ⟨s_bad, ?_⟩
  refine List.forall_mem_cons.2 ⟨s_aload_n (k := 0) (by decide +kernel) rfl, ?_⟩
  refine List.forall_mem_cons.2 ⟨s_getfield (C := q_n14) (T := q_T14) (N := 4) (idx := 15) (ref := "java/lang/AbstractStringBuilder") (by decide +kernel) rfl q_in14 (by decide) (x_up mw_879) rfl, ?_⟩
  refine List.forall_mem_cons.2 ⟨s_aload_n (k := 0) (by decide +kernel) rfl, ?_⟩
  refine List.forall_mem_cons.2 ⟨s_dup (by decide +kernel), ?_⟩
  refine List.forall_mem_cons.2 ⟨s_getfield (C := q_n14) (T := q_T14) (N := 4) (idx := 79) (ref := "java/lang/AbstractStringBuilder") (by decide +kernel) rfl q_in14 (by decide) (x_up mw_886) rfl, ?_⟩
  refine List.forall_mem_cons.2 ⟨s_dup_x1 (by decide +kernel), ?_⟩
  refine List.forall_mem_cons.2 ⟨s_iconst (k := 1) (by decide +kernel) (by decide +kernel), ?_⟩
  refine List.forall_mem_cons.2 ⟨s_iadd (by decide +kernel), ?_⟩
  refine List.forall_mem_cons.2 ⟨s_putfield (C := q_n14) (T := q_T14) (N := 4) (idx := 79) (ref := "java/lang/AbstractStringBuilder") q_t14 (by decide +kernel) rfl q_in14 q_ty14 q_nm14 (by decide) (x_up mw_886) rfl rfl (by decide +kernel), ?_⟩
  refine List.forall_mem_cons.2 ⟨s_iload_n (k := 1) (by decide +kernel) rfl, ?_⟩
  exact fun _ h => absurd h List.not_mem_nil
def q_k160_1 : List (Nat × xO) := [(72, fun _ _ => none), (75, x_lda 76 0), (76, x_ra)]
set_option maxRecDepth 100000 in
set_option maxHeartbeats 4000000 in
theorem q_s160_1 (l : Launch) (s0 : State) (hP : ∀ w ∈ x_pm, w.before #[] s0 = true) : ∀ q ∈ q_k160_1, x_Sim (x_K s0) none l q_y160 q_c160 2 (some (.object "java/lang/AbstractStringBuilder")) q_w160 q.1 q.2 := by
  unfold q_k160_1
  refine List.forall_mem_cons.2 ⟨s_bad, ?_⟩
  refine List.forall_mem_cons.2 ⟨s_aload_n (k := 0) (by decide +kernel) rfl, ?_⟩
  refine List.forall_mem_cons.2 ⟨s_areturn (rt := .object "java/lang/AbstractStringBuilder") (by decide +kernel) rfl (Or.inl ⟨_, rfl⟩), ?_⟩
  exact fun _ h => absurd h List.not_mem_nil
def q_k160 : List (Nat × xO) := q_k160_0 ++ q_k160_1
theorem q_s160 (l : Launch) (s0 : State) (hP : ∀ w ∈ x_pm, w.before #[] s0 = true) : ∀ q ∈ q_k160, x_Sim (x_K s0) none l q_y160 q_c160 2 (some (.object "java/lang/AbstractStringBuilder")) q_w160 q.1 q.2 := by
  intro q hq
  simp only [q_k160, List.mem_append] at hq
  rcases hq with h0 | h1
  · exact q_s160_0 l s0 hP q h0
  · exact q_s160_1 l s0 hP q h1
/-- java/lang/AbstractStringBuilder.ensureCapacityInternal(I)V -/
def q_k161_0 : List (Nat × xO) := [(0, x_lda 1 0), (1, x_gf 4 14 0), (4, x_aln 5 6), (5, x_lda 6 0), (6, x_gf 9 14 1), (9, x_st (x_bin 10 (fun a b => a >>> (b &&& 31)))), (10, x_sti 11 2), (11, x_ldi 12 1), (12, x_ldi 13 2), (13, x_st (x_bin 14 (fun a b => a - b))), (14, x_st (x_ifle 38 17)), (17, x_lda 18 0), (18, x_lda 19 0), (19, x_gf 22 14 0), (22, x_lda 23 0), (23, x_ldi 24 1), (24, x_cv 27 162 2 14), (27, x_lda 28 0), (28, x_gf 31 14 1), (31, x_st (x_bin 32 (fun a b => a <<< (b &&& 31)))), (32, x_cl_ 35 164 2), (35, x_pf 38 14 0 (.array .byte)), (38, x_rv)]
set_option maxRecDepth 100000 in
set_option maxHeartbeats 4000000 in
theorem q_s161_0 (l : Launch) (s0 : State) (hP : ∀ w ∈ x_pm, w.before #[] s0 = true) : ∀ q ∈ q_k161_0, x_Sim (x_K s0) none l q_y161 q_c161 3 none q_w161 q.1 q.2 := by
  unfold q_k161_0
  refine List.forall_mem_cons.2 ⟨s_aload_n (k := 0) (by decide +kernel) rfl, ?_⟩
  refine List.forall_mem_cons.2 ⟨s_getfield (C := q_n14) (T := q_T14) (N := 4) (idx := 15) (ref := "java/lang/AbstractStringBuilder") (by decide +kernel) rfl q_in14 (by decide) (x_up mw_879) rfl, ?_⟩
  refine List.forall_mem_cons.2 ⟨s_alen (by decide +kernel) 6 rfl, ?_⟩
  refine List.forall_mem_cons.2 ⟨s_aload_n (k := 0) (by decide +kernel) rfl, ?_⟩
  refine List.forall_mem_cons.2 ⟨s_getfield (C := q_n14) (T := q_T14) (N := 4) (idx := 22) (ref := "java/lang/AbstractStringBuilder") (by decide +kernel) rfl q_in14 (by decide) (x_up mw_880) rfl, ?_⟩
  refine List.forall_mem_cons.2 ⟨s_ishr (by decide +kernel), ?_⟩
  refine List.forall_mem_cons.2 ⟨s_istore_n (k := 2) (by decide +kernel) rfl (by decide), ?_⟩
  refine List.forall_mem_cons.2 ⟨s_iload_n (k := 1) (by decide +kernel) rfl, ?_⟩
  refine List.forall_mem_cons.2 ⟨s_iload_n (k := 2) (by decide +kernel) rfl, ?_⟩
  refine List.forall_mem_cons.2 ⟨s_isub (by decide +kernel), ?_⟩
  refine List.forall_mem_cons.2 ⟨s_ifle (off := 24) (by decide +kernel) (by decide), ?_⟩
  refine List.forall_mem_cons.2 ⟨s_aload_n (k := 0) (by decide +kernel) rfl, ?_⟩
  refine List.forall_mem_cons.2 ⟨s_aload_n (k := 0) (by decide +kernel) rfl, ?_⟩
  refine List.forall_mem_cons.2 ⟨s_getfield (C := q_n14) (T := q_T14) (N := 4) (idx := 15) (ref := "java/lang/AbstractStringBuilder") (by decide +kernel) rfl q_in14 (by decide) (x_up mw_879) rfl, ?_⟩
  refine List.forall_mem_cons.2 ⟨s_aload_n (k := 0) (by decide +kernel) rfl, ?_⟩
  refine List.forall_mem_cons.2 ⟨s_iload_n (k := 1) (by decide +kernel) rfl, ?_⟩
  refine List.forall_mem_cons.2 ⟨s_invokevirtualP (idx := 104) (M := 162) (k := 1) (ci := 14) (C := q_n14) (T := q_T14) (N := 4) (ym := q_y162) (wm := q_w162) (by decide +kernel) rfl rfl rfl (x_gd1 mw_899) (x_up mw_900) (x_up mw_901) (x_up mw_902) (hP _ x_pm1) (x_up mw_875) rfl (by decide +kernel) (by decide), ?_⟩
  refine List.forall_mem_cons.2 ⟨s_aload_n (k := 0) (by decide +kernel) rfl, ?_⟩
  refine List.forall_mem_cons.2 ⟨s_getfield (C := q_n14) (T := q_T14) (N := 4) (idx := 22) (ref := "java/lang/AbstractStringBuilder") (by decide +kernel) rfl q_in14 (by decide) (x_up mw_880) rfl, ?_⟩
  refine List.forall_mem_cons.2 ⟨s_ishl (by decide +kernel), ?_⟩
  refine List.forall_mem_cons.2 ⟨s_invokestatic (idx := 108) (M := 164) (ym := q_y164) (wm := q_w164) (by decide +kernel) rfl rfl (x_gdS mw_904 mw_905 mw_197 mw_903) rfl (by decide +kernel) (by decide), ?_⟩
  refine List.forall_mem_cons.2 ⟨s_putfield (C := q_n14) (T := q_T14) (N := 4) (idx := 15) (ref := "java/lang/AbstractStringBuilder") q_t14 (by decide +kernel) rfl q_in14 q_ty14 q_nm14 (by decide) (x_up mw_879) rfl rfl (by decide +kernel), ?_⟩
  refine List.forall_mem_cons.2 ⟨s_return (by decide +kernel) rfl, ?_⟩
  exact fun _ h => absurd h List.not_mem_nil
def q_k161 : List (Nat × xO) := q_k161_0
theorem q_s161 (l : Launch) (s0 : State) (hP : ∀ w ∈ x_pm, w.before #[] s0 = true) : ∀ q ∈ q_k161, x_Sim (x_K s0) none l q_y161 q_c161 3 none q_w161 q.1 q.2 := q_s161_0 l s0 hP
/-- java/lang/AbstractStringBuilder.newCapacity(I)I -/
def q_k162_0 : List (Nat × xO) := [(0, x_lda 1 0), (1, x_gf 4 14 0), (4, x_aln 5 6), (5, x_sti 6 2), (6, x_ldi 7 1), (7, x_lda 8 0), (8, x_gf 11 14 1), (11, x_st (x_bin 12 (fun a b => a <<< (b &&& 31)))), (12, x_sti 13 3), (13, x_ldi 14 3), (14, x_ldi 15 2), (15, x_st (x_bin 16 (fun a b => a - b))), (16, x_sti 18 4), (18, x_ldi 19 2), (19, x_ldi 21 4), (21, x_ldi 22 2), (22, x_st (x_push 23 (.int (2)))), (23, x_lda 24 0), (24, x_gf 27 14 1), (27, x_st (x_bin 28 (fun a b => a <<< (b &&& 31)))), (28, x_st (x_bin 29 (fun a b => a + b))), (29, x_cl_ 32 163 3), (32, x_sti 34 5), (34, x_ldi 36 5), (36, x_st (x_push 38 (.int (2147483647)))), (38, x_st (x_icne 51 41)), (41, fun _ _ => none), (44, x_st (x_dup 45)), (45, fun _ _ => none), (47, fun _ _ => none), (50, fun _ _ => none), (51, x_ldi 53 5), (53, x_lda 54 0), (54, x_gf 57 14 1), (57, x_st (x_bin 58 (fun a b => a >>> (b &&& 31)))), (58, x_ri (.int))]
set_option maxRecDepth 100000 in
set_option maxHeartbeats 4000000 in
theorem q_s162_0 (l : Launch) (s0 : State) : ∀ q ∈ q_k162_0, x_Sim (x_K s0) none l q_y162 q_c162 6 (some .int) q_w162 q.1 q.2 := by
  unfold q_k162_0
  refine List.forall_mem_cons.2 ⟨s_aload_n (k := 0) (by decide +kernel) rfl, ?_⟩
  refine List.forall_mem_cons.2 ⟨s_getfield (C := q_n14) (T := q_T14) (N := 4) (idx := 15) (ref := "java/lang/AbstractStringBuilder") (by decide +kernel) rfl q_in14 (by decide) (x_up mw_879) rfl, ?_⟩
  refine List.forall_mem_cons.2 ⟨s_alen (by decide +kernel) 6 rfl, ?_⟩
  refine List.forall_mem_cons.2 ⟨s_istore_n (k := 2) (by decide +kernel) rfl (by decide), ?_⟩
  refine List.forall_mem_cons.2 ⟨s_iload_n (k := 1) (by decide +kernel) rfl, ?_⟩
  refine List.forall_mem_cons.2 ⟨s_aload_n (k := 0) (by decide +kernel) rfl, ?_⟩
  refine List.forall_mem_cons.2 ⟨s_getfield (C := q_n14) (T := q_T14) (N := 4) (idx := 22) (ref := "java/lang/AbstractStringBuilder") (by decide +kernel) rfl q_in14 (by decide) (x_up mw_880) rfl, ?_⟩
  refine List.forall_mem_cons.2 ⟨s_ishl (by decide +kernel), ?_⟩
  refine List.forall_mem_cons.2 ⟨s_istore_n (k := 3) (by decide +kernel) rfl (by decide), ?_⟩
  refine List.forall_mem_cons.2 ⟨s_iload_n (k := 3) (by decide +kernel) rfl, ?_⟩
  refine List.forall_mem_cons.2 ⟨s_iload_n (k := 2) (by decide +kernel) rfl, ?_⟩
  refine List.forall_mem_cons.2 ⟨s_isub (by decide +kernel), ?_⟩
  refine List.forall_mem_cons.2 ⟨s_istore (by decide +kernel) (by decide), ?_⟩
  refine List.forall_mem_cons.2 ⟨s_iload_n (k := 2) (by decide +kernel) rfl, ?_⟩
  refine List.forall_mem_cons.2 ⟨s_iload (by decide +kernel), ?_⟩
  refine List.forall_mem_cons.2 ⟨s_iload_n (k := 2) (by decide +kernel) rfl, ?_⟩
  refine List.forall_mem_cons.2 ⟨s_iconst (k := 2) (by decide +kernel) (by decide +kernel), ?_⟩
  refine List.forall_mem_cons.2 ⟨s_aload_n (k := 0) (by decide +kernel) rfl, ?_⟩
  refine List.forall_mem_cons.2 ⟨s_getfield (C := q_n14) (T := q_T14) (N := 4) (idx := 22) (ref := "java/lang/AbstractStringBuilder") (by decide +kernel) rfl q_in14 (by decide) (x_up mw_880) rfl, ?_⟩
  refine List.forall_mem_cons.2 ⟨s_ishl (by decide +kernel), ?_⟩
  refine List.forall_mem_cons.2 ⟨s_iadd (by decide +kernel), ?_⟩
  refine List.forall_mem_cons.2 ⟨s_invokestatic (idx := 114) (M := 163) (ym := q_y163) (wm := q_w163) (by decide +kernel) rfl rfl (x_gdS mw_907 mw_908 mw_909 mw_906) rfl (by decide +kernel) (by decide), ?_⟩
  refine List.forall_mem_cons.2 ⟨s_istore (by decide +kernel) (by decide), ?_⟩
  refine List.forall_mem_cons.2 ⟨s_iload (by decide +kernel), ?_⟩
  refine List.forall_mem_cons.2 ⟨s_ldc (i := 39) (v := 2147483647) (by decide +kernel) (x_up mw_910), ?_⟩
  refine List.forall_mem_cons.2 ⟨s_icmp_ne (off := 13) (by decide +kernel) (by decide), ?_⟩
  refine List.forall_mem_cons.2 ⟨s_bad, ?_⟩
  refine List.forall_mem_cons.2 ⟨s_dup (by decide +kernel), ?_⟩
  refine List.forall_mem_cons.2 ⟨s_bad, ?_⟩
  refine List.forall_mem_cons.2 ⟨s_bad, ?_⟩
  refine List.forall_mem_cons.2 ⟨s_bad, ?_⟩
  refine List.forall_mem_cons.2 ⟨s_iload (by decide +kernel), ?_⟩
  refine List.forall_mem_cons.2 ⟨s_aload_n (k := 0) (by decide +kernel) rfl, ?_⟩
  refine List.forall_mem_cons.2 ⟨s_getfield (C := q_n14) (T := q_T14) (N := 4) (idx := 22) (ref := "java/lang/AbstractStringBuilder") (by decide +kernel) rfl q_in14 (by decide) (x_up mw_880) rfl, ?_⟩
  refine List.forall_mem_cons.2 ⟨s_ishr (by decide +kernel), ?_⟩
  refine List.forall_mem_cons.2 ⟨s_ireturn (ty := .int) (by decide +kernel) rfl, ?_⟩
  exact fun _ h => absurd h List.not_mem_nil
def q_k162 : List (Nat × xO) := q_k162_0
theorem q_s162 (l : Launch) (s0 : State) : ∀ q ∈ q_k162, x_Sim (x_K s0) none l q_y162 q_c162 6 (some .int) q_w162 q.1 q.2 := q_s162_0 l s0
/-- jdk/internal/util/ArraysSupport.newLength(III)I -/
def q_k163_0 : List (Nat × xO) := [(0, x_ldi 1 0), (1, x_ldi 2 1), (2, x_ldi 3 2), (3, x_st (x_mm 6 (fun a b => if a < b then b else a))), (6, x_st (x_bin 7 (fun a b => a + b))), (7, x_sti 8 3), (8, x_st (x_push 9 (.int (0)))), (9, x_ldi 10 3), (10, x_st (x_icge 21 13)), (13, x_ldi 14 3), (14, x_st (x_push 16 (.int (2147483639)))), (16, x_st (x_icgt 21 19)), (19, x_ldi 20 3), (20, x_ri (.int)), (21, x_ldi 22 0), (22, x_ldi 23 1), (23, fun _ _ => none), (26, x_ri (.int))]
set_option maxRecDepth 100000 in
set_option maxHeartbeats 4000000 in
theorem q_s163_0 (l : Launch) (s0 : State) : ∀ q ∈ q_k163_0, x_Sim (x_K s0) none l q_y163 q_c163 4 (some .int) q_w163 q.1 q.2 := by
  unfold q_k163_0
  refine List.forall_mem_cons.2 ⟨s_iload_n (k := 0) (by decide +kernel) rfl, ?_⟩
  refine List.forall_mem_cons.2 ⟨s_iload_n (k := 1) (by decide +kernel) rfl, ?_⟩
  refine List.forall_mem_cons.2 ⟨s_iload_n (k := 2) (by decide +kernel) rfl, ?_⟩
  refine List.forall_mem_cons.2 ⟨s_mmax (idx := 194) (by decide +kernel) (x_up mw_911) (x_up mw_583) (x_up mw_328) (x_up mw_584), ?_⟩
  refine List.forall_mem_cons.2 ⟨s_iadd (by decide +kernel), ?_⟩
  refine List.forall_mem_cons.2 ⟨s_istore_n (k := 3) (by decide +kernel) rfl (by decide), ?_⟩
  refine List.forall_mem_cons.2 ⟨s_iconst (k := 0) (by decide +kernel) (by decide +kernel), ?_⟩
  refine List.forall_mem_cons.2 ⟨s_iload_n (k := 3) (by decide +kernel) rfl, ?_⟩
  refine List.forall_mem_cons.2 ⟨s_icmp_ge (off := 11) (by decide +kernel) (by decide), ?_⟩
  refine List.forall_mem_cons.2 ⟨s_iload_n (k := 3) (by decide +kernel) rfl, ?_⟩
  refine List.forall_mem_cons.2 ⟨s_ldc (i := 200) (v := 2147483639) (by decide +kernel) (x_up mw_912), ?_⟩
  refine List.forall_mem_cons.2 ⟨s_icmp_gt (off := 5) (by decide +kernel) (by decide), ?_⟩
  refine List.forall_mem_cons.2 ⟨s_iload_n (k := 3) (by decide +kernel) rfl, ?_⟩
  refine List.forall_mem_cons.2 ⟨s_ireturn (ty := .int) (by decide +kernel) rfl, ?_⟩
  refine List.forall_mem_cons.2 ⟨s_iload_n (k := 0) (by decide +kernel) rfl, ?_⟩
  refine List.forall_mem_cons.2 ⟨s_iload_n (k := 1) (by decide +kernel) rfl, ?_⟩
  refine List.forall_mem_cons.2 ⟨s_bad, ?_⟩
  refine List.forall_mem_cons.2 ⟨s_ireturn (ty := .int) (by decide +kernel) rfl, ?_⟩
  exact fun _ h => absurd h List.not_mem_nil
def q_k163 : List (Nat × xO) := q_k163_0
theorem q_s163 (l : Launch) (s0 : State) : ∀ q ∈ q_k163, x_Sim (x_K s0) none l q_y163 q_c163 4 (some .int) q_w163 q.1 q.2 := q_s163_0 l s0
/-- java/util/Arrays.copyOf([BI)[B -/
def q_k164_0 : List (Nat × xO) := [(0, x_ldi 1 1), (1, x_lda 2 0), (2, x_aln 3 6), (3, x_st (x_icne 14 6)), (6, x_lda 7 0), (7, x_cln 10 5 (fun v => fits .byte (.int v))), (10, x_cst 13 5), (13, x_ra), (14, x_ldi 15 1), (15, x_na 17 5), (17, x_sta 18 2), (18, x_lda 19 0), (19, x_st (x_push 20 (.int (0)))), (20, x_lda 21 2), (21, x_st (x_push 22 (.int (0)))), (22, x_lda 23 0), (23, x_aln 24 6), (24, x_ldi 25 1), (25, x_st (x_mm 28 (fun a b => if b < a then b else a))), (28, x_acq 31 5 (fun v => fits .byte (.int v))), (31, x_lda 32 2), (32, x_ra)]
set_option maxRecDepth 100000 in
set_option maxHeartbeats 4000000 in
theorem q_s164_0 (l : Launch) (s0 : State) : ∀ q ∈ q_k164_0, x_Sim (x_K s0) none l q_y164 q_c164 3 (some (.array .byte)) q_w164 q.1 q.2 := by
  unfold q_k164_0
  refine List.forall_mem_cons.2 ⟨s_iload_n (k := 1) (by decide +kernel) rfl, ?_⟩
  refine List.forall_mem_cons.2 ⟨s_aload_n (k := 0) (by decide +kernel) rfl, ?_⟩
  refine List.forall_mem_cons.2 ⟨s_alen (by decide +kernel) 6 rfl, ?_⟩
  refine List.forall_mem_cons.2 ⟨s_icmp_ne (off := 11) (by decide +kernel) (by decide), ?_⟩
  refine List.forall_mem_cons.2 ⟨s_aload_n (k := 0) (by decide +kernel) rfl, ?_⟩
  refine List.forall_mem_cons.2 ⟨s_clone (idx := 310) (nm := "[B") (by decide +kernel) rfl (fun _ h => h) (x_up mw_913) (x_up mw_914) (x_up mw_843) (x_up mw_844) (x_up mw_915) x_nw2 x_raB, ?_⟩
  refine List.forall_mem_cons.2 ⟨s_castA (idx := 311) (nm := "[B") (by decide +kernel) rfl (x_up mw_916) x_raB, ?_⟩
  refine List.forall_mem_cons.2 ⟨s_areturn (rt := .array .byte) (by decide +kernel) rfl (Or.inr ⟨_, rfl⟩), ?_⟩
  refine List.forall_mem_cons.2 ⟨s_iload_n (k := 1) (by decide +kernel) rfl, ?_⟩
  refine List.forall_mem_cons.2 ⟨s_newarray (at0 := .byte) (ty := .byte) (by decide +kernel) rfl (x_up mw_878) rfl (by decide) rfl (fun _ _ h => h), ?_⟩
  refine List.forall_mem_cons.2 ⟨s_astore_n (k := 2) (by decide +kernel) rfl (by decide), ?_⟩
  refine List.forall_mem_cons.2 ⟨s_aload_n (k := 0) (by decide +kernel) rfl, ?_⟩
  refine List.forall_mem_cons.2 ⟨s_iconst (k := 0) (by decide +kernel) (by decide +kernel), ?_⟩
  refine List.forall_mem_cons.2 ⟨s_aload_n (k := 2) (by decide +kernel) rfl, ?_⟩
  refine List.forall_mem_cons.2 ⟨s_iconst (k := 0) (by decide +kernel) (by decide +kernel), ?_⟩
  refine List.forall_mem_cons.2 ⟨s_aload_n (k := 0) (by decide +kernel) rfl, ?_⟩
  refine List.forall_mem_cons.2 ⟨s_alen (by decide +kernel) 6 rfl, ?_⟩
  refine List.forall_mem_cons.2 ⟨s_iload_n (k := 1) (by decide +kernel) rfl, ?_⟩
  refine List.forall_mem_cons.2 ⟨s_mmin (idx := 304) (by decide +kernel) (x_up mw_847) (x_up mw_327) (x_up mw_328) (x_up mw_329), ?_⟩
  refine List.forall_mem_cons.2 ⟨s_acopyB (idx := 150) (ty := .byte) (ok := fun v => fits .byte (.int v)) (fun _ h => h) rfl (by decide +kernel) rfl (x_up mw_848) (x_up mw_292) (x_up mw_293) (x_up mw_294), ?_⟩
  refine List.forall_mem_cons.2 ⟨s_aload_n (k := 2) (by decide +kernel) rfl, ?_⟩
  refine List.forall_mem_cons.2 ⟨s_areturn (rt := .array .byte) (by decide +kernel) rfl (Or.inr ⟨_, rfl⟩), ?_⟩
  exact fun _ h => absurd h List.not_mem_nil
def q_k164 : List (Nat × xO) := q_k164_0
theorem q_s164 (l : Launch) (s0 : State) : ∀ q ∈ q_k164, x_Sim (x_K s0) none l q_y164 q_c164 3 (some (.array .byte)) q_w164 q.1 q.2 := q_s164_0 l s0
/-- java/lang/AbstractStringBuilder.isLatin1()Z -/
def q_k165_0 : List (Nat × xO) := [(0, x_st (x_push 3 (.int (1)))), (3, x_st (x_ifeq 17 6)), (6, x_lda 7 0), (7, x_gf 10 14 1), (10, x_st (x_ifne 17 13)), (13, x_st (x_push 14 (.int (1)))), (14, x_st (x_goto 18)), (17, x_st (x_push 18 (.int (0)))), (18, x_ri (.boolean))]
set_option maxRecDepth 100000 in
set_option maxHeartbeats 4000000 in
theorem q_s165_0 (l : Launch) (s0 : State) (hZ : x_Zi "java/lang/String" "COMPACT_STRINGS" "Z" 1 s0) : ∀ q ∈ q_k165_0, x_Sim (x_K s0) none l q_y165 q_c165 1 (some .boolean) q_w165 q.1 q.2 := by
  unfold q_k165_0
  refine List.forall_mem_cons.2 ⟨s_getsI (idx := 18) (C := "java/lang/String") (n := "COMPACT_STRINGS") (d := "Z") (z := 1) (by decide +kernel) (x_up mw_877) hZ, ?_⟩
  refine List.forall_mem_cons.2 ⟨s_ifeq (off := 14) (by decide +kernel) (by decide), ?_⟩
  refine List.forall_mem_cons.2 ⟨s_aload_n (k := 0) (by decide +kernel) rfl, ?_⟩
  refine List.forall_mem_cons.2 ⟨s_getfield (C := q_n14) (T := q_T14) (N := 4) (idx := 22) (ref := "java/lang/AbstractStringBuilder") (by decide +kernel) rfl q_in14 (by decide) (x_up mw_880) rfl, ?_⟩
  refine List.forall_mem_cons.2 ⟨s_ifne (off := 7) (by decide +kernel) (by decide), ?_⟩
  refine List.forall_mem_cons.2 ⟨s_iconst (k := 1) (by decide +kernel) (by decide +kernel), ?_⟩
  refine List.forall_mem_cons.2 ⟨s_goto (off := 4) (by decide +kernel) (by decide), ?_⟩
  refine List.forall_mem_cons.2 ⟨s_iconst (k := 0) (by decide +kernel) (by decide +kernel), ?_⟩
  refine List.forall_mem_cons.2 ⟨s_ireturn (ty := .boolean) (by decide +kernel) rfl, ?_⟩
  exact fun _ h => absurd h List.not_mem_nil
def q_k165 : List (Nat × xO) := q_k165_0
theorem q_s165 (l : Launch) (s0 : State) (hZ : x_Zi "java/lang/String" "COMPACT_STRINGS" "Z" 1 s0) : ∀ q ∈ q_k165, x_Sim (x_K s0) none l q_y165 q_c165 1 (some .boolean) q_w165 q.1 q.2 := q_s165_0 l s0 hZ
/-- java/lang/StringLatin1.canEncode(C)Z -/
def q_k166_0 : List (Nat × xO) := [(0, x_ldi 1 0), (1, x_st (x_push 4 (.int (255)))), (4, x_st (x_icgt 11 7)), (7, x_st (x_push 8 (.int (1)))), (8, x_st (x_goto 12)), (11, x_st (x_push 12 (.int (0)))), (12, x_ri (.boolean))]
set_option maxRecDepth 100000 in
set_option maxHeartbeats 4000000 in
theorem q_s166_0 (l : Launch) (s0 : State) : ∀ q ∈ q_k166_0, x_Sim (x_K s0) none l q_y166 q_c166 1 (some .boolean) q_w166 q.1 q.2 := by
  unfold q_k166_0
  refine List.forall_mem_cons.2 ⟨s_iload_n (k := 0) (by decide +kernel) rfl, ?_⟩
  refine List.forall_mem_cons.2 ⟨s_sipush (k := 255) (by decide +kernel) (by decide +kernel), ?_⟩
  refine List.forall_mem_cons.2 ⟨s_icmp_gt (off := 7) (by decide +kernel) (by decide), ?_⟩
  refine List.forall_mem_cons.2 ⟨s_iconst (k := 1) (by decide +kernel) (by decide +kernel), ?_⟩
  refine List.forall_mem_cons.2 ⟨s_goto (off := 4) (by decide +kernel) (by decide), ?_⟩
  refine List.forall_mem_cons.2 ⟨s_iconst (k := 0) (by decide +kernel) (by decide +kernel), ?_⟩
  refine List.forall_mem_cons.2 ⟨s_ireturn (ty := .boolean) (by decide +kernel) rfl, ?_⟩
  exact fun _ h => absurd h List.not_mem_nil
def q_k166 : List (Nat × xO) := q_k166_0
theorem q_s166 (l : Launch) (s0 : State) : ∀ q ∈ q_k166, x_Sim (x_K s0) none l q_y166 q_c166 1 (some .boolean) q_w166 q.1 q.2 := q_s166_0 l s0
/-- java/lang/StringBuilder.toString()Ljava/lang/String; -/
def q_k167_0 : List (Nat × xO) := [(0, x_nw_ 3 13 [.null, .int 0, .int 0, .int 0]), (3, x_st (x_dup 4)), (4, x_lda 5 0), (5, x_cs 8 168 2), (8, x_ra)]
set_option maxRecDepth 100000 in
set_option maxHeartbeats 4000000 in
theorem q_s167_0 (l : Launch) (s0 : State) : ∀ q ∈ q_k167_0, x_Sim (x_K s0) none l q_y167 q_c167 1 (some (.object "java/lang/String")) q_w167 q.1 q.2 := by
  unfold q_k167_0
  refine List.forall_mem_cons.2 ⟨s_new (C := q_n13) (T := q_T13) (N := 4) (idx := 18) q_t13 (by decide +kernel) rfl q_in13 q_ty13 (x_up mw_917) (x_up mw_918) (x_up mw_546) rfl (by decide +kernel) rfl, ?_⟩
  refine List.forall_mem_cons.2 ⟨s_dup (by decide +kernel), ?_⟩
  refine List.forall_mem_cons.2 ⟨s_aload_n (k := 0) (by decide +kernel) rfl, ?_⟩
  refine List.forall_mem_cons.2 ⟨s_invokespecial (idx := 137) (M := 168) (k := 1) (ym := q_y168) (wm := q_w168) (by decide +kernel) rfl rfl (x_gd1 mw_919) (x_up mw_920) (x_up mw_921) (x_up mw_546) rfl rfl (by decide +kernel) (by decide), ?_⟩
  refine List.forall_mem_cons.2 ⟨s_areturn (rt := .object "java/lang/String") (by decide +kernel) rfl (Or.inl ⟨_, rfl⟩), ?_⟩
  exact fun _ h => absurd h List.not_mem_nil
def q_k167 : List (Nat × xO) := q_k167_0
theorem q_s167 (l : Launch) (s0 : State) : ∀ q ∈ q_k167, x_Sim (x_K s0) none l q_y167 q_c167 1 (some (.object "java/lang/String")) q_w167 q.1 q.2 := q_s167_0 l s0
/-- java/lang/String.<init>(Ljava/lang/StringBuilder;)V -/
def q_k168_0 : List (Nat × xO) := [(0, x_lda 1 0), (1, x_lda 2 1), (2, x_st (x_push 3 .null)), (3, x_cs 6 169 3), (6, x_rv)]
set_option maxRecDepth 100000 in
set_option maxHeartbeats 4000000 in
theorem q_s168_0 (l : Launch) (s0 : State) : ∀ q ∈ q_k168_0, x_Sim (x_K s0) none l q_y168 q_c168 2 none q_w168 q.1 q.2 := by
  unfold q_k168_0
  refine List.forall_mem_cons.2 ⟨s_aload_n (k := 0) (by decide +kernel) rfl, ?_⟩
  refine List.forall_mem_cons.2 ⟨s_aload_n (k := 1) (by decide +kernel) rfl, ?_⟩
  refine List.forall_mem_cons.2 ⟨s_null (by decide +kernel), ?_⟩
  refine List.forall_mem_cons.2 ⟨s_invokespecial (idx := 489) (M := 169) (k := 2) (ym := q_y169) (wm := q_w169) (by decide +kernel) rfl rfl (x_gd1 mw_922) (x_up mw_923) (x_up mw_924) (x_up mw_546) rfl rfl (by decide +kernel) (by decide), ?_⟩
  refine List.forall_mem_cons.2 ⟨s_return (by decide +kernel) rfl, ?_⟩
  exact fun _ h => absurd h List.not_mem_nil
def q_k168 : List (Nat × xO) := q_k168_0
theorem q_s168 (l : Launch) (s0 : State) : ∀ q ∈ q_k168, x_Sim (x_K s0) none l q_y168 q_c168 2 none q_w168 q.1 q.2 := q_s168_0 l s0
/-- java/lang/String.<init>(Ljava/lang/AbstractStringBuilder;Ljava/lang/Void;)V -/
def q_k169_0 : List (Nat × xO) := [(0, x_lda 1 0), (1, x_st (x_oi 4)), (4, x_lda 5 1), (5, x_cv 8 170 1 14), (8, x_sta 9 3), (9, x_lda 10 1), (10, x_cv 13 171 1 14), (13, x_sti 15 4), (15, x_lda 16 1), (16, x_cv 19 165 1 14), (19, x_st (x_ifeq 41 22)), (22, x_lda 23 0), (23, x_st (x_push 24 (.int (0)))), (24, x_pf 27 13 1 (.byte)), (27, x_lda 28 0), (28, x_lda 29 3), (29, x_st (x_push 30 (.int (0)))), (30, x_ldi 32 4), (32, x_cl_ 35 173 3), (35, x_pf 38 13 0 (.array .byte)), (38, x_st (x_goto 97)), (41, x_st (x_push 44 (.int (1)))), (44, x_st (x_ifeq 79 47)), (47, x_lda 48 1), (48, fun _ _ => none), (51, x_st (x_ifeq 79 54)), (54, x_lda 55 0), (55, x_lda 56 3), (56, x_st (x_push 57 (.int (0)))), (57, x_ldi 59 4), (59, fun _ _ => none), (62, x_pf 65 13 0 (.array .byte)), (65, x_lda 66 0), (66, x_lda 67 0), (67, fun _ _ => none), (70, x_ldi 72 4), (72, fun _ _ => none), (75, x_pf 78 13 1 (.byte)), (78, x_rv), (79, x_lda 80 0)]
set_option maxRecDepth 100000 in
set_option maxHeartbeats 4000000 in
theorem q_s169_0 (l : Launch) (s0 : State) (hZ : x_Zi "java/lang/String" "COMPACT_STRINGS" "Z" 1 s0) : ∀ q ∈ q_k169_0, x_Sim (x_K s0) none l q_y169 q_c169 5 none q_w169 q.1 q.2 := by
  unfold q_k169_0
  refine List.forall_mem_cons.2 ⟨s_aload_n (k := 0) (by decide +kernel) rfl, ?_⟩
  refine List.forall_mem_cons.2 ⟨s_objInit (idx := 1) (by decide +kernel) (x_up mw_925) (x_up mw_100) (x_up mw_obj), ?_⟩
  refine List.forall_mem_cons.2 ⟨s_aload_n (k := 1) (by decide +kernel) rfl, ?_⟩
  refine List.forall_mem_cons.2 ⟨s_invokevirtualU (idx := 552) (M := 170) (k := 0) (ci := 14) (C := q_n14) (T := q_T14) (N := 4) (owner := "java/lang/AbstractStringBuilder") (xm := q_y170) (ym := q_y170) (wm := q_w170) (by decide +kernel) rfl rfl rfl (x_gd (List.forall_mem_cons.2 ⟨mw_927, List.forall_mem_cons.2 ⟨mw_928, List.forall_mem_cons.2 ⟨mw_929, List.forall_mem_cons.2 ⟨mw_930, List.forall_mem_cons.2 ⟨mw_875, List.forall_mem_cons.2 ⟨mw_926, fun _ h => h⟩⟩⟩⟩⟩⟩)) rfl rfl (by decide +kernel) (by decide), ?_⟩
  refine List.forall_mem_cons.2 ⟨s_astore_n (k := 3) (by decide +kernel) rfl (by decide), ?_⟩
  refine List.forall_mem_cons.2 ⟨s_aload_n (k := 1) (by decide +kernel) rfl, ?_⟩
  refine List.forall_mem_cons.2 ⟨s_invokevirtualO (idx := 549) (M := 171) (k := 0) (ci := 14) (C := q_n14) (T := q_T14) (N := 4) (owner := "java/lang/AbstractStringBuilder") (xm := q_y172) (ym := q_y171) (wm := q_w171) (by decide +kernel) rfl rfl rfl (x_gd (List.forall_mem_cons.2 ⟨mw_933, List.forall_mem_cons.2 ⟨mw_934, List.forall_mem_cons.2 ⟨mw_935, List.forall_mem_cons.2 ⟨mw_936, List.forall_mem_cons.2 ⟨mw_937, List.forall_mem_cons.2 ⟨mw_619, List.forall_mem_cons.2 ⟨mw_932, fun _ h => h⟩⟩⟩⟩⟩⟩⟩)) rfl (x_up mw_931) (by decide +kernel) (by decide), ?_⟩
  refine List.forall_mem_cons.2 ⟨s_istore (by decide +kernel) (by decide), ?_⟩
  refine List.forall_mem_cons.2 ⟨s_aload_n (k := 1) (by decide +kernel) rfl, ?_⟩
  refine List.forall_mem_cons.2 ⟨s_invokevirtualU (idx := 1047) (M := 165) (k := 0) (ci := 14) (C := q_n14) (T := q_T14) (N := 4) (owner := "java/lang/AbstractStringBuilder") (xm := q_y165) (ym := q_y165) (wm := q_w165) (by decide +kernel) rfl rfl rfl (x_gd (List.forall_mem_cons.2 ⟨mw_938, List.forall_mem_cons.2 ⟨mw_893, List.forall_mem_cons.2 ⟨mw_894, List.forall_mem_cons.2 ⟨mw_895, List.forall_mem_cons.2 ⟨mw_875, List.forall_mem_cons.2 ⟨mw_891, fun _ h => h⟩⟩⟩⟩⟩⟩)) rfl rfl (by decide +kernel) (by decide), ?_⟩
  refine List.forall_mem_cons.2 ⟨s_ifeq (off := 22) (by decide +kernel) (by decide), ?_⟩
  refine List.forall_mem_cons.2 ⟨s_aload_n (k := 0) (by decide +kernel) rfl, ?_⟩
  refine List.forall_mem_cons.2 ⟨s_iconst (k := 0) (by decide +kernel) (by decide +kernel), ?_⟩
  refine List.forall_mem_cons.2 ⟨s_putfieldF (C := q_n13) (T := q_T13) (N := 4) (idx := 15) q_t13 (by decide +kernel) rfl q_in13 q_ty13 q_nm13 (by decide) (x_up mw_855) rfl rfl (by decide +kernel) rfl, ?_⟩
  refine List.forall_mem_cons.2 ⟨s_aload_n (k := 0) (by decide +kernel) rfl, ?_⟩
  refine List.forall_mem_cons.2 ⟨s_aload_n (k := 3) (by decide +kernel) rfl, ?_⟩
  refine List.forall_mem_cons.2 ⟨s_iconst (k := 0) (by decide +kernel) (by decide +kernel), ?_⟩
  refine List.forall_mem_cons.2 ⟨s_iload (by decide +kernel), ?_⟩
  refine List.forall_mem_cons.2 ⟨s_invokestatic (idx := 54) (M := 173) (ym := q_y173) (wm := q_w173) (by decide +kernel) rfl rfl (x_gdS mw_940 mw_941 mw_197 mw_939) rfl (by decide +kernel) (by decide), ?_⟩
  refine List.forall_mem_cons.2 ⟨s_putfieldF (C := q_n13) (T := q_T13) (N := 4) (idx := 9) q_t13 (by decide +kernel) rfl q_in13 q_ty13 q_nm13 (by decide) (x_up mw_849) rfl rfl (by decide +kernel) rfl, ?_⟩
  refine List.forall_mem_cons.2 ⟨s_goto (off := 59) (by decide +kernel) (by decide), ?_⟩
  refine List.forall_mem_cons.2 ⟨s_getsI (idx := 38) (C := "java/lang/String") (n := "COMPACT_STRINGS") (d := "Z") (z := 1) (by decide +kernel) (x_up mw_854) hZ, ?_⟩
  refine List.forall_mem_cons.2 ⟨s_ifeq (off := 35) (by decide +kernel) (by decide), ?_⟩
  refine List.forall_mem_cons.2 ⟨s_aload_n (k := 1) (by decide +kernel) rfl, ?_⟩
  refine List.forall_mem_cons.2 ⟨s_bad, ?_⟩
  refine List.forall_mem_cons.2 ⟨s_ifeq (off := 28) (by decide +kernel) (by decide), ?_⟩
  refine List.forall_mem_cons.2 ⟨s_aload_n (k := 0) (by decide +kernel) rfl, ?_⟩
  refine List.forall_mem_cons.2 ⟨s_aload_n (k := 3) (by decide +kernel) rfl, ?_⟩
  refine List.forall_mem_cons.2 ⟨s_iconst (k := 0) (by decide +kernel) (by decide +kernel), ?_⟩
  refine List.forall_mem_cons.2 ⟨s_iload (by decide +kernel), ?_⟩
  refine List.forall_mem_cons.2 ⟨s_bad, ?_⟩
  refine List.forall_mem_cons.2 ⟨s_putfieldF (C := q_n13) (T := q_T13) (N := 4) (idx := 9) q_t13 (by decide +kernel) rfl q_in13 q_ty13 q_nm13 (by decide) (x_up mw_849) rfl rfl (by decide +kernel) rfl, ?_⟩
  refine List.forall_mem_cons.2 ⟨s_aload_n (k := 0) (by decide +kernel) rfl, ?_⟩
  refine List.forall_mem_cons.2 ⟨s_aload_n (k := 0) (by decide +kernel) rfl, ?_⟩
  refine List.forall_mem_cons.2 ⟨s_bad, ?_⟩
  refine List.forall_mem_cons.2 ⟨s_iload (by decide +kernel), ?_⟩
  refine List.forall_mem_cons.2 ⟨s_bad, ?_⟩
  refine List.forall_mem_cons.2 ⟨s_putfieldF (C := q_n13) (T := q_T13) (N := 4) (idx := 15) q_t13 (by decide +kernel) rfl q_in13 q_ty13 q_nm13 (by decide) (x_up mw_855) rfl rfl (by decide +kernel) rfl, ?_⟩
  refine List.forall_mem_cons.2 ⟨s_return (by decide +kernel) rfl, ?_⟩
  refine List.forall_mem_cons.2 ⟨s_aload_n (k := 0) (by decide +kernel) rfl, ?_⟩
  exact fun _ h => absurd h List.not_mem_nil
def q_k169_1 : List (Nat × xO) := [(80, x_st (x_push 81 (.int (1)))), (81, x_pf 84 13 1 (.byte)), (84, x_lda 85 0), (85, x_lda 86 3), (86, x_st (x_push 87 (.int (0)))), (87, x_ldi 89 4), (89, x_st (x_push 90 (.int (1)))), (90, x_st (x_bin 91 (fun a b => a <<< (b &&& 31)))), (91, x_cl_ 94 173 3), (94, x_pf 97 13 0 (.array .byte)), (97, x_rv)]
set_option maxRecDepth 100000 in
set_option maxHeartbeats 4000000 in
theorem q_s169_1 (l : Launch) (s0 : State) (hZ : x_Zi "java/lang/String" "COMPACT_STRINGS" "Z" 1 s0) : ∀ q ∈ q_k169_1, x_Sim (x_K s0) none l q_y169 q_c169 5 none q_w169 q.1 q.2 := by
  unfold q_k169_1
  refine List.forall_mem_cons.2 ⟨s_iconst (k := 1) (by decide +kernel) (by decide +kernel), ?_⟩
  refine List.forall_mem_cons.2 ⟨s_putfieldF (C := q_n13) (T := q_T13) (N := 4) (idx := 15) q_t13 (by decide +kernel) rfl q_in13 q_ty13 q_nm13 (by decide) (x_up mw_855) rfl rfl (by decide +kernel) rfl, ?_⟩
  refine List.forall_mem_cons.2 ⟨s_aload_n (k := 0) (by decide +kernel) rfl, ?_⟩
  refine List.forall_mem_cons.2 ⟨s_aload_n (k := 3) (by decide +kernel) rfl, ?_⟩
  refine List.forall_mem_cons.2 ⟨s_iconst (k := 0) (by decide +kernel) (by decide +kernel), ?_⟩
  refine List.forall_mem_cons.2 ⟨s_iload (by decide +kernel), ?_⟩
  refine List.forall_mem_cons.2 ⟨s_iconst (k := 1) (by decide +kernel) (by decide +kernel), ?_⟩
  refine List.forall_mem_cons.2 ⟨s_ishl (by decide +kernel), ?_⟩
  refine List.forall_mem_cons.2 ⟨s_invokestatic (idx := 54) (M := 173) (ym := q_y173) (wm := q_w173) (by decide +kernel) rfl rfl (x_gdS mw_940 mw_941 mw_197 mw_939) rfl (by decide +kernel) (by decide), ?_⟩
  refine List.forall_mem_cons.2 ⟨s_putfieldF (C := q_n13) (T := q_T13) (N := 4) (idx := 9) q_t13 (by decide +kernel) rfl q_in13 q_ty13 q_nm13 (by decide) (x_up mw_849) rfl rfl (by decide +kernel) rfl, ?_⟩
  refine List.forall_mem_cons.2 ⟨s_return (by decide +kernel) rfl, ?_⟩
  exact fun _ h => absurd h List.not_mem_nil
def q_k169 : List (Nat × xO) := q_k169_0 ++ q_k169_1
theorem q_s169 (l : Launch) (s0 : State) (hZ : x_Zi "java/lang/String" "COMPACT_STRINGS" "Z" 1 s0) : ∀ q ∈ q_k169, x_Sim (x_K s0) none l q_y169 q_c169 5 none q_w169 q.1 q.2 := by
  intro q hq
  simp only [q_k169, List.mem_append] at hq
  rcases hq with h0 | h1
  · exact q_s169_0 l s0 hZ q h0
  · exact q_s169_1 l s0 hZ q h1
/-- java/lang/AbstractStringBuilder.getValue()[B -/
def q_k170_0 : List (Nat × xO) := [(0, x_lda 1 0), (1, x_gf 4 14 0), (4, x_ra)]
set_option maxRecDepth 100000 in
set_option maxHeartbeats 4000000 in
theorem q_s170_0 (l : Launch) (s0 : State) : ∀ q ∈ q_k170_0, x_Sim (x_K s0) none l q_y170 q_c170 1 (some (.array .byte)) q_w170 q.1 q.2 := by
  unfold q_k170_0
  refine List.forall_mem_cons.2 ⟨s_aload_n (k := 0) (by decide +kernel) rfl, ?_⟩
  refine List.forall_mem_cons.2 ⟨s_getfield (C := q_n14) (T := q_T14) (N := 4) (idx := 15) (ref := "java/lang/AbstractStringBuilder") (by decide +kernel) rfl q_in14 (by decide) (x_up mw_879) rfl, ?_⟩
  refine List.forall_mem_cons.2 ⟨s_areturn (rt := .array .byte) (by decide +kernel) rfl (Or.inr ⟨_, rfl⟩), ?_⟩
  exact fun _ h => absurd h List.not_mem_nil
def q_k170 : List (Nat × xO) := q_k170_0
theorem q_s170 (l : Launch) (s0 : State) : ∀ q ∈ q_k170, x_Sim (x_K s0) none l q_y170 q_c170 1 (some (.array .byte)) q_w170 q.1 q.2 := q_s170_0 l s0
/-- java/lang/StringBuilder.length()I -/
def q_k171_0 : List (Nat × xO) := [(0, x_lda 1 0), (1, x_cv 4 172 1 14), (4, x_ri (.int))]
set_option maxRecDepth 100000 in
set_option maxHeartbeats 4000000 in
theorem q_s171_0 (l : Launch) (s0 : State) : ∀ q ∈ q_k171_0, x_Sim (x_K s0) none l q_y171 q_c171 1 (some .int) q_w171 q.1 q.2 := by
  unfold q_k171_0
  refine List.forall_mem_cons.2 ⟨s_aload_n (k := 0) (by decide +kernel) rfl, ?_⟩
  refine List.forall_mem_cons.2 ⟨s_super (idx := 343) (M := 172) (k := 0) (ci := 14) (C := q_n14) (T := q_T14) (N := 4) (ym := q_y172) (wm := q_w172) (by decide +kernel) rfl rfl rfl (x_gd (List.forall_mem_cons.2 ⟨mw_942, List.forall_mem_cons.2 ⟨mw_934, List.forall_mem_cons.2 ⟨mw_884, List.forall_mem_cons.2 ⟨mw_935, List.forall_mem_cons.2 ⟨mw_875, List.forall_mem_cons.2 ⟨mw_931, fun _ h => h⟩⟩⟩⟩⟩⟩)) rfl (by decide +kernel) (by decide), ?_⟩
  refine List.forall_mem_cons.2 ⟨s_ireturn (ty := .int) (by decide +kernel) rfl, ?_⟩
  exact fun _ h => absurd h List.not_mem_nil
def q_k171 : List (Nat × xO) := q_k171_0
theorem q_s171 (l : Launch) (s0 : State) : ∀ q ∈ q_k171, x_Sim (x_K s0) none l q_y171 q_c171 1 (some .int) q_w171 q.1 q.2 := q_s171_0 l s0
/-- java/lang/AbstractStringBuilder.length()I -/
def q_k172_0 : List (Nat × xO) := [(0, x_lda 1 0), (1, x_gf 4 14 3), (4, x_ri (.int))]
set_option maxRecDepth 100000 in
set_option maxHeartbeats 4000000 in
theorem q_s172_0 (l : Launch) (s0 : State) : ∀ q ∈ q_k172_0, x_Sim (x_K s0) none l q_y172 q_c172 1 (some .int) q_w172 q.1 q.2 := by
  unfold q_k172_0
  refine List.forall_mem_cons.2 ⟨s_aload_n (k := 0) (by decide +kernel) rfl, ?_⟩
  refine List.forall_mem_cons.2 ⟨s_getfield (C := q_n14) (T := q_T14) (N := 4) (idx := 79) (ref := "java/lang/AbstractStringBuilder") (by decide +kernel) rfl q_in14 (by decide) (x_up mw_886) rfl, ?_⟩
  refine List.forall_mem_cons.2 ⟨s_ireturn (ty := .int) (by decide +kernel) rfl, ?_⟩
  exact fun _ h => absurd h List.not_mem_nil
def q_k172 : List (Nat × xO) := q_k172_0
theorem q_s172 (l : Launch) (s0 : State) : ∀ q ∈ q_k172, x_Sim (x_K s0) none l q_y172 q_c172 1 (some .int) q_w172 q.1 q.2 := q_s172_0 l s0
/-- java/util/Arrays.copyOfRange([BII)[B -/
def q_k173_0 : List (Nat × xO) := [(0, x_ldi 1 1), (1, x_st (x_ifne 10 4)), (4, x_ldi 5 2), (5, x_lda 6 0), (6, x_aln 7 6), (7, x_st (x_iceq 17 10)), (10, x_lda 11 0), (11, x_ldi 12 1), (12, x_ldi 13 2), (13, x_cl_ 16 174 3), (16, x_ra), (17, x_lda 18 0), (18, x_cln 21 5 (fun v => fits .byte (.int v))), (21, x_cst 24 5), (24, x_ra)]
set_option maxRecDepth 100000 in
set_option maxHeartbeats 4000000 in
theorem q_s173_0 (l : Launch) (s0 : State) : ∀ q ∈ q_k173_0, x_Sim (x_K s0) none l q_y173 q_c173 3 (some (.array .byte)) q_w173 q.1 q.2 := by
  unfold q_k173_0
  refine List.forall_mem_cons.2 ⟨s_iload_n (k := 1) (by decide +kernel) rfl, ?_⟩
  refine List.forall_mem_cons.2 ⟨s_ifne (off := 9) (by decide +kernel) (by decide), ?_⟩
  refine List.forall_mem_cons.2 ⟨s_iload_n (k := 2) (by decide +kernel) rfl, ?_⟩
  refine List.forall_mem_cons.2 ⟨s_aload_n (k := 0) (by decide +kernel) rfl, ?_⟩
  refine List.forall_mem_cons.2 ⟨s_alen (by decide +kernel) 6 rfl, ?_⟩
  refine List.forall_mem_cons.2 ⟨s_icmp_eq (off := 10) (by decide +kernel) (by decide), ?_⟩
  refine List.forall_mem_cons.2 ⟨s_aload_n (k := 0) (by decide +kernel) rfl, ?_⟩
  refine List.forall_mem_cons.2 ⟨s_iload_n (k := 1) (by decide +kernel) rfl, ?_⟩
  refine List.forall_mem_cons.2 ⟨s_iload_n (k := 2) (by decide +kernel) rfl, ?_⟩
  refine List.forall_mem_cons.2 ⟨s_invokestatic (idx := 339) (M := 174) (ym := q_y174) (wm := q_w174) (by decide +kernel) rfl rfl (x_gdS mw_944 mw_945 mw_197 mw_943) rfl (by decide +kernel) (by decide), ?_⟩
  refine List.forall_mem_cons.2 ⟨s_areturn (rt := .array .byte) (by decide +kernel) rfl (Or.inr ⟨_, rfl⟩), ?_⟩
  refine List.forall_mem_cons.2 ⟨s_aload_n (k := 0) (by decide +kernel) rfl, ?_⟩
  refine List.forall_mem_cons.2 ⟨s_clone (idx := 310) (nm := "[B") (by decide +kernel) rfl (fun _ h => h) (x_up mw_913) (x_up mw_914) (x_up mw_843) (x_up mw_844) (x_up mw_915) x_nw2 x_raB, ?_⟩
  refine List.forall_mem_cons.2 ⟨s_castA (idx := 311) (nm := "[B") (by decide +kernel) rfl (x_up mw_916) x_raB, ?_⟩
  refine List.forall_mem_cons.2 ⟨s_areturn (rt := .array .byte) (by decide +kernel) rfl (Or.inr ⟨_, rfl⟩), ?_⟩
  exact fun _ h => absurd h List.not_mem_nil
def q_k173 : List (Nat × xO) := q_k173_0
theorem q_s173 (l : Launch) (s0 : State) : ∀ q ∈ q_k173, x_Sim (x_K s0) none l q_y173 q_c173 3 (some (.array .byte)) q_w173 q.1 q.2 := q_s173_0 l s0
/-- java/util/Arrays.copyOfRangeByte([BII)[B -/
def q_k174_0 : List (Nat × xO) := [(0, x_ldi 1 1), (1, x_ldi 2 2), (2, x_cl_ 5 175 2), (5, x_ldi 6 2), (6, x_ldi 7 1), (7, x_st (x_bin 8 (fun a b => a - b))), (8, x_sti 9 3), (9, x_ldi 10 3), (10, x_na 12 5), (12, x_sta 14 4), (14, x_lda 15 0), (15, x_ldi 16 1), (16, x_lda 18 4), (18, x_st (x_push 19 (.int (0)))), (19, x_lda 20 0), (20, x_aln 21 6), (21, x_ldi 22 1), (22, x_st (x_bin 23 (fun a b => a - b))), (23, x_ldi 24 3), (24, x_st (x_mm 27 (fun a b => if b < a then b else a))), (27, x_acq 30 5 (fun v => fits .byte (.int v))), (30, x_lda 32 4), (32, x_ra)]
set_option maxRecDepth 100000 in
set_option maxHeartbeats 4000000 in
theorem q_s174_0 (l : Launch) (s0 : State) : ∀ q ∈ q_k174_0, x_Sim (x_K s0) none l q_y174 q_c174 5 (some (.array .byte)) q_w174 q.1 q.2 := by
  unfold q_k174_0
  refine List.forall_mem_cons.2 ⟨s_iload_n (k := 1) (by decide +kernel) rfl, ?_⟩
  refine List.forall_mem_cons.2 ⟨s_iload_n (k := 2) (by decide +kernel) rfl, ?_⟩
  refine List.forall_mem_cons.2 ⟨s_invokestatic (idx := 343) (M := 175) (ym := q_y175) (wm := q_w175) (by decide +kernel) rfl rfl (x_gdS mw_947 mw_948 mw_197 mw_946) rfl (by decide +kernel) (by decide), ?_⟩
  refine List.forall_mem_cons.2 ⟨s_iload_n (k := 2) (by decide +kernel) rfl, ?_⟩
  refine List.forall_mem_cons.2 ⟨s_iload_n (k := 1) (by decide +kernel) rfl, ?_⟩
  refine List.forall_mem_cons.2 ⟨s_isub (by decide +kernel), ?_⟩
  refine List.forall_mem_cons.2 ⟨s_istore_n (k := 3) (by decide +kernel) rfl (by decide), ?_⟩
  refine List.forall_mem_cons.2 ⟨s_iload_n (k := 3) (by decide +kernel) rfl, ?_⟩
  refine List.forall_mem_cons.2 ⟨s_newarray (at0 := .byte) (ty := .byte) (by decide +kernel) rfl (x_up mw_878) rfl (by decide) rfl (fun _ _ h => h), ?_⟩
  refine List.forall_mem_cons.2 ⟨s_astore (by decide +kernel) (by decide), ?_⟩
  refine List.forall_mem_cons.2 ⟨s_aload_n (k := 0) (by decide +kernel) rfl, ?_⟩
  refine List.forall_mem_cons.2 ⟨s_iload_n (k := 1) (by decide +kernel) rfl, ?_⟩
  refine List.forall_mem_cons.2 ⟨s_aload (by decide +kernel), ?_⟩
  refine List.forall_mem_cons.2 ⟨s_iconst (k := 0) (by decide +kernel) (by decide +kernel), ?_⟩
  refine List.forall_mem_cons.2 ⟨s_aload_n (k := 0) (by decide +kernel) rfl, ?_⟩
  refine List.forall_mem_cons.2 ⟨s_alen (by decide +kernel) 6 rfl, ?_⟩
  refine List.forall_mem_cons.2 ⟨s_iload_n (k := 1) (by decide +kernel) rfl, ?_⟩
  refine List.forall_mem_cons.2 ⟨s_isub (by decide +kernel), ?_⟩
  refine List.forall_mem_cons.2 ⟨s_iload_n (k := 3) (by decide +kernel) rfl, ?_⟩
  refine List.forall_mem_cons.2 ⟨s_mmin (idx := 304) (by decide +kernel) (x_up mw_847) (x_up mw_327) (x_up mw_328) (x_up mw_329), ?_⟩
  refine List.forall_mem_cons.2 ⟨s_acopyB (idx := 150) (ty := .byte) (ok := fun v => fits .byte (.int v)) (fun _ h => h) rfl (by decide +kernel) rfl (x_up mw_848) (x_up mw_292) (x_up mw_293) (x_up mw_294), ?_⟩
  refine List.forall_mem_cons.2 ⟨s_aload (by decide +kernel), ?_⟩
  refine List.forall_mem_cons.2 ⟨s_areturn (rt := .array .byte) (by decide +kernel) rfl (Or.inr ⟨_, rfl⟩), ?_⟩
  exact fun _ h => absurd h List.not_mem_nil
def q_k174 : List (Nat × xO) := q_k174_0
theorem q_s174 (l : Launch) (s0 : State) : ∀ q ∈ q_k174, x_Sim (x_K s0) none l q_y174 q_c174 5 (some (.array .byte)) q_w174 q.1 q.2 := q_s174_0 l s0
/-- java/util/Arrays.checkLength(II)V -/
def q_k175_0 : List (Nat × xO) := [(0, x_ldi 1 1), (1, x_ldi 2 0), (2, x_st (x_icge 37 5)), (5, fun _ _ => none), (8, x_st (x_dup 9)), (9, fun _ _ => none), (12, x_st (x_dup 13)), (13, fun _ _ => none), (16, x_ldi 17 0), (17, fun _ _ => none), (20, fun _ _ => none), (23, fun _ _ => none), (26, x_ldi 27 1), (27, fun _ _ => none), (30, fun _ _ => none), (33, fun _ _ => none), (36, fun _ _ => none), (37, x_rv)]
set_option maxRecDepth 100000 in
set_option maxHeartbeats 4000000 in
theorem q_s175_0 (l : Launch) (s0 : State) : ∀ q ∈ q_k175_0, x_Sim (x_K s0) none l q_y175 q_c175 2 none q_w175 q.1 q.2 := by
  unfold q_k175_0
  refine List.forall_mem_cons.2 ⟨s_iload_n (k := 1) (by decide +kernel) rfl, ?_⟩
  refine List.forall_mem_cons.2 ⟨s_iload_n (k := 0) (by decide +kernel) rfl, ?_⟩
  refine List.forall_mem_cons.2 ⟨s_icmp_ge (off := 35) (by decide +kernel) (by decide), ?_⟩
  refine List.forall_mem_cons.2 ⟨s_bad, ?_⟩
  refine List.forall_mem_cons.2 ⟨s_dup (by decide +kernel), ?_⟩
  refine List.forall_mem_cons.2 ⟨s_bad, ?_⟩
  refine List.forall_mem_cons.2 ⟨s_dup (by decide +kernel), ?_⟩
  refine List.forall_mem_cons.2 ⟨s_bad, ?_⟩
  refine List.forall_mem_cons.2 ⟨s_iload_n (k := 0) (by decide +kernel) rfl, ?_⟩
  refine List.forall_mem_cons.2 ⟨s_bad, ?_⟩
  refine List.forall_mem_cons.2 ⟨s_bad, ?_⟩
  refine List.forall_mem_cons.2 ⟨s_bad, ?_⟩
  refine List.forall_mem_cons.2 ⟨s_iload_n (k := 1) (by decide +kernel) rfl, ?_⟩
  refine List.forall_mem_cons.2 ⟨s_bad, ?_⟩
  refine List.forall_mem_cons.2 ⟨s_bad, ?_⟩
  refine List.forall_mem_cons.2 ⟨s_bad, ?_⟩
  refine List.forall_mem_cons.2 ⟨s_bad, ?_⟩
  refine List.forall_mem_cons.2 ⟨s_return (by decide +kernel) rfl, ?_⟩
  exact fun _ h => absurd h List.not_mem_nil
def q_k175 : List (Nat × xO) := q_k175_0
theorem q_s175 (l : Launch) (s0 : State) : ∀ q ∈ q_k175, x_Sim (x_K s0) none l q_y175 q_c175 2 none q_w175 q.1 q.2 := q_s175_0 l s0
