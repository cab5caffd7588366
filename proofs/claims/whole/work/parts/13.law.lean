def x_np : List (String × String) := [("java/lang/IllegalStateException", "java/lang/IllegalArgumentException"), ("java/util/NoSuchElementException", "java/lang/IllegalStateException"), ("java/lang/IllegalArgumentException", "java/lang/IllegalStateException"), ("java/lang/IllegalArgumentException", "java/util/NoSuchElementException"), ("java/lang/UnsupportedOperationException", "java/lang/IllegalStateException"), ("java/lang/UnsupportedOperationException", "java/util/NoSuchElementException"), ("java/lang/UnsupportedOperationException", "java/lang/IllegalArgumentException")]
theorem x_hs146 (s0 : State) (hN : ∀ q ∈ x_np, va_Nc q.1 q.2 s0) : ∀ t hp, x_lkN [(9, 11), (10, 14)] t = some hp → ∃ X T0, (x_K s0).1[t]? = some (X, T0, 0) ∧ x_HT s0 q_w146 q_y146.cls X 3 [(0, 8, 11, 13), (0, 8, 14, 15)] hp := by
  intro t hp h
  simp only [x_lkN] at h
  split at h
  · next e =>
    cases h
    subst e
    exact ⟨"java/lang/IllegalArgumentException", _, rfl, ⟨⟨by decide, by decide⟩, by decide, "java/lang/IllegalArgumentException", x_up mw_949, Or.inl ⟨rfl, rfl⟩⟩⟩
  split at h
  · next e =>
    cases h
    subst e
    exact ⟨"java/lang/IllegalStateException", _, rfl, ⟨⟨by decide, by decide⟩, by decide, "java/lang/IllegalArgumentException", x_up mw_949, Or.inr ⟨hN ("java/lang/IllegalStateException", "java/lang/IllegalArgumentException") (List.mem_of_getElem? (i := 0) rfl), ⟨⟨by decide, by decide⟩, by decide, "java/lang/IllegalStateException", x_up mw_950, Or.inl ⟨rfl, rfl⟩⟩⟩⟩⟩
  cases h
theorem x_hs147 (s0 : State) (hN : ∀ q ∈ x_np, va_Nc q.1 q.2 s0) : ∀ t hp, x_lkN [(10, 21), (11, 25), (9, 29), (12, 33)] t = some hp → ∃ X T0, (x_K s0).1[t]? = some (X, T0, 0) ∧ x_HT s0 q_w147 q_y147.cls X 13 [(0, 18, 21, 15), (0, 18, 25, 21), (0, 18, 29, 13), (0, 18, 33, 23)] hp := by
  intro t hp h
  simp only [x_lkN] at h
  split at h
  · next e =>
    cases h
    subst e
    exact ⟨"java/lang/IllegalStateException", _, rfl, ⟨⟨by decide, by decide⟩, by decide, "java/lang/IllegalStateException", x_up mw_950, Or.inl ⟨rfl, rfl⟩⟩⟩
  split at h
  · next e =>
    cases h
    subst e
    exact ⟨"java/util/NoSuchElementException", _, rfl, ⟨⟨by decide, by decide⟩, by decide, "java/lang/IllegalStateException", x_up mw_950, Or.inr ⟨hN ("java/util/NoSuchElementException", "java/lang/IllegalStateException") (List.mem_of_getElem? (i := 1) rfl), ⟨⟨by decide, by decide⟩, by decide, "java/util/NoSuchElementException", x_up mw_951, Or.inl ⟨rfl, rfl⟩⟩⟩⟩⟩
  split at h
  · next e =>
    cases h
    subst e
    exact ⟨"java/lang/IllegalArgumentException", _, rfl, ⟨⟨by decide, by decide⟩, by decide, "java/lang/IllegalStateException", x_up mw_950, Or.inr ⟨hN ("java/lang/IllegalArgumentException", "java/lang/IllegalStateException") (List.mem_of_getElem? (i := 2) rfl), ⟨⟨by decide, by decide⟩, by decide, "java/util/NoSuchElementException", x_up mw_951, Or.inr ⟨hN ("java/lang/IllegalArgumentException", "java/util/NoSuchElementException") (List.mem_of_getElem? (i := 3) rfl), ⟨⟨by decide, by decide⟩, by decide, "java/lang/IllegalArgumentException", x_up mw_949, Or.inl ⟨rfl, rfl⟩⟩⟩⟩⟩⟩⟩
  split at h
  · next e =>
    cases h
    subst e
    exact ⟨"java/lang/UnsupportedOperationException", _, rfl, ⟨⟨by decide, by decide⟩, by decide, "java/lang/IllegalStateException", x_up mw_950, Or.inr ⟨hN ("java/lang/UnsupportedOperationException", "java/lang/IllegalStateException") (List.mem_of_getElem? (i := 4) rfl), ⟨⟨by decide, by decide⟩, by decide, "java/util/NoSuchElementException", x_up mw_951, Or.inr ⟨hN ("java/lang/UnsupportedOperationException", "java/util/NoSuchElementException") (List.mem_of_getElem? (i := 5) rfl), ⟨⟨by decide, by decide⟩, by decide, "java/lang/IllegalArgumentException", x_up mw_949, Or.inr ⟨hN ("java/lang/UnsupportedOperationException", "java/lang/IllegalArgumentException") (List.mem_of_getElem? (i := 6) rfl), ⟨⟨by decide, by decide⟩, by decide, "java/lang/UnsupportedOperationException", x_up mw_952, Or.inl ⟨rfl, rfl⟩⟩⟩⟩⟩⟩⟩⟩⟩
  cases h
def q_k146_0 : List (Nat × xO) := [(0, x_lda 1 1), (1, x_st (x_push 2 (.int (0)))), (2, x_lda 3 0), (3, x_ct 6 69 1 0 [(9, 11), (10, 14)]), (6, x_st (x_un 7 (fun a => .long a.toInt64))), (7, x_astl 8 3), (8, x_st (x_goto 17)), (11, x_sta 12 2), (12, x_st (x_push 13 (.int (1)))), (13, x_ri (.int)), (14, x_sta 15 2), (15, x_st (x_push 16 (.int (2)))), (16, x_ri (.int)), (17, x_st (x_push 18 (.int (0)))), (18, x_ri (.int))]
set_option maxRecDepth 100000 in
set_option maxHeartbeats 4000000 in
theorem q_s146_0 (l : Launch) (s0 : State) (hN : ∀ q ∈ x_np, va_Nc q.1 q.2 s0) : ∀ q ∈ q_k146_0, x_Sim (x_K s0) none l q_y146 q_c146 3 (some .int) q_w146 q.1 q.2 := by
  unfold q_k146_0
  refine List.forall_mem_cons.2 ⟨s_aload_n (k := 1) (by decide +kernel) rfl, ?_⟩
  refine List.forall_mem_cons.2 ⟨s_iconst (k := 0) (by decide +kernel) (by decide +kernel), ?_⟩
  refine List.forall_mem_cons.2 ⟨s_aload_n (k := 0) (by decide +kernel) rfl, ?_⟩
  refine List.forall_mem_cons.2 ⟨s_catch (idx := 7) (M := 69) (k := 0) (ci := 0) (C := q_n0) (T := q_T0) (N := 10) (ym := q_y69) (wm := q_w69) (s_invokevirtual (idx := 7) (M := 69) (k := 0) (ci := 0) (C := q_n0) (T := q_T0) (N := 10) (ym := q_y69) (wm := q_w69) (by decide +kernel) rfl rfl rfl (x_gdV mw_954 mw_955 mw_956 mw_408 mw_953) rfl (by decide +kernel) (by decide)) (by decide +kernel) rfl rfl rfl (x_gdV mw_954 mw_955 mw_956 mw_408 mw_953) rfl (by decide +kernel) (by decide) List.mem_cons_self (x_hs146 s0 hN), ?_⟩
  refine List.forall_mem_cons.2 ⟨s_i2l (by decide +kernel), ?_⟩
  refine List.forall_mem_cons.2 ⟨s_last (by decide +kernel) rfl, ?_⟩
  refine List.forall_mem_cons.2 ⟨s_goto (off := 9) (by decide +kernel) (by decide), ?_⟩
  refine List.forall_mem_cons.2 ⟨s_astore_n (k := 2) (by decide +kernel) rfl (by decide), ?_⟩
  refine List.forall_mem_cons.2 ⟨s_iconst (k := 1) (by decide +kernel) (by decide +kernel), ?_⟩
  refine List.forall_mem_cons.2 ⟨s_ireturn (ty := .int) (by decide +kernel) rfl, ?_⟩
  refine List.forall_mem_cons.2 ⟨s_astore_n (k := 2) (by decide +kernel) rfl (by decide), ?_⟩
  refine List.forall_mem_cons.2 ⟨s_iconst (k := 2) (by decide +kernel) (by decide +kernel), ?_⟩
  refine List.forall_mem_cons.2 ⟨s_ireturn (ty := .int) (by decide +kernel) rfl, ?_⟩
  refine List.forall_mem_cons.2 ⟨s_iconst (k := 0) (by decide +kernel) (by decide +kernel), ?_⟩
  refine List.forall_mem_cons.2 ⟨s_ireturn (ty := .int) (by decide +kernel) rfl, ?_⟩
  exact fun _ h => absurd h List.not_mem_nil
def q_k146 : List (Nat × xO) := q_k146_0
theorem q_s146 (l : Launch) (s0 : State) (hN : ∀ q ∈ x_np, va_Nc q.1 q.2 s0) : ∀ q ∈ q_k146, x_Sim (x_K s0) none l q_y146 q_c146 3 (some .int) q_w146 q.1 q.2 := by
  intro q hq
  exact q_s146_0 l s0 hN q hq
def q_k147_0 : List (Nat × xO) := [(0, x_lda 2 7), (2, x_st (x_push 3 (.int (0)))), (3, x_lda 4 0), (4, x_ldi 5 1), (5, x_ldi 6 2), (6, x_ldi 7 3), (7, x_ldi 9 4), (9, x_ldi 11 5), (11, x_ldi 13 6), (13, x_ct 16 70 7 0 [(10, 21), (11, 25), (9, 29), (12, 33)]), (16, x_st (x_un 17 (fun a => .long a.toInt64))), (17, x_astl 18 3), (18, x_st (x_goto 37)), (21, x_sta 23 8), (23, x_st (x_push 24 (.int (1)))), (24, x_ri (.int)), (25, x_sta 27 8), (27, x_st (x_push 28 (.int (2)))), (28, x_ri (.int)), (29, x_sta 31 8), (31, x_st (x_push 32 (.int (3)))), (32, x_ri (.int)), (33, x_sta 35 8), (35, x_st (x_push 36 (.int (4)))), (36, x_ri (.int)), (37, x_st (x_push 38 (.int (0)))), (38, x_ri (.int))]
set_option maxRecDepth 100000 in
set_option maxHeartbeats 4000000 in
theorem q_s147_0 (l : Launch) (s0 : State) (hN : ∀ q ∈ x_np, va_Nc q.1 q.2 s0) : ∀ q ∈ q_k147_0, x_Sim (x_K s0) none l q_y147 q_c147 9 (some .int) q_w147 q.1 q.2 := by
  unfold q_k147_0
  refine List.forall_mem_cons.2 ⟨s_aload (by decide +kernel), ?_⟩
  refine List.forall_mem_cons.2 ⟨s_iconst (k := 0) (by decide +kernel) (by decide +kernel), ?_⟩
  refine List.forall_mem_cons.2 ⟨s_aload_n (k := 0) (by decide +kernel) rfl, ?_⟩
  refine List.forall_mem_cons.2 ⟨s_iload_n (k := 1) (by decide +kernel) rfl, ?_⟩
  refine List.forall_mem_cons.2 ⟨s_iload_n (k := 2) (by decide +kernel) rfl, ?_⟩
  refine List.forall_mem_cons.2 ⟨s_iload_n (k := 3) (by decide +kernel) rfl, ?_⟩
  refine List.forall_mem_cons.2 ⟨s_iload (by decide +kernel), ?_⟩
  refine List.forall_mem_cons.2 ⟨s_iload (by decide +kernel), ?_⟩
  refine List.forall_mem_cons.2 ⟨s_iload (by decide +kernel), ?_⟩
  refine List.forall_mem_cons.2 ⟨s_catch (idx := 17) (M := 70) (k := 6) (ci := 0) (C := q_n0) (T := q_T0) (N := 10) (ym := q_y70) (wm := q_w70) (s_invokevirtual (idx := 17) (M := 70) (k := 6) (ci := 0) (C := q_n0) (T := q_T0) (N := 10) (ym := q_y70) (wm := q_w70) (by decide +kernel) rfl rfl rfl (x_gdV mw_958 mw_959 mw_960 mw_408 mw_957) rfl (by decide +kernel) (by decide)) (by decide +kernel) rfl rfl rfl (x_gdV mw_958 mw_959 mw_960 mw_408 mw_957) rfl (by decide +kernel) (by decide) List.mem_cons_self (x_hs147 s0 hN), ?_⟩
  refine List.forall_mem_cons.2 ⟨s_i2l (by decide +kernel), ?_⟩
  refine List.forall_mem_cons.2 ⟨s_last (by decide +kernel) rfl, ?_⟩
  refine List.forall_mem_cons.2 ⟨s_goto (off := 19) (by decide +kernel) (by decide), ?_⟩
  refine List.forall_mem_cons.2 ⟨s_astore (by decide +kernel) (by decide), ?_⟩
  refine List.forall_mem_cons.2 ⟨s_iconst (k := 1) (by decide +kernel) (by decide +kernel), ?_⟩
  refine List.forall_mem_cons.2 ⟨s_ireturn (ty := .int) (by decide +kernel) rfl, ?_⟩
  refine List.forall_mem_cons.2 ⟨s_astore (by decide +kernel) (by decide), ?_⟩
  refine List.forall_mem_cons.2 ⟨s_iconst (k := 2) (by decide +kernel) (by decide +kernel), ?_⟩
  refine List.forall_mem_cons.2 ⟨s_ireturn (ty := .int) (by decide +kernel) rfl, ?_⟩
  refine List.forall_mem_cons.2 ⟨s_astore (by decide +kernel) (by decide), ?_⟩
  refine List.forall_mem_cons.2 ⟨s_iconst (k := 3) (by decide +kernel) (by decide +kernel), ?_⟩
  refine List.forall_mem_cons.2 ⟨s_ireturn (ty := .int) (by decide +kernel) rfl, ?_⟩
  refine List.forall_mem_cons.2 ⟨s_astore (by decide +kernel) (by decide), ?_⟩
  refine List.forall_mem_cons.2 ⟨s_iconst (k := 4) (by decide +kernel) (by decide +kernel), ?_⟩
  refine List.forall_mem_cons.2 ⟨s_ireturn (ty := .int) (by decide +kernel) rfl, ?_⟩
  refine List.forall_mem_cons.2 ⟨s_iconst (k := 0) (by decide +kernel) (by decide +kernel), ?_⟩
  refine List.forall_mem_cons.2 ⟨s_ireturn (ty := .int) (by decide +kernel) rfl, ?_⟩
  exact fun _ h => absurd h List.not_mem_nil
def q_k147 : List (Nat × xO) := q_k147_0
theorem q_s147 (l : Launch) (s0 : State) (hN : ∀ q ∈ x_np, va_Nc q.1 q.2 s0) : ∀ q ∈ q_k147, x_Sim (x_K s0) none l q_y147 q_c147 9 (some .int) q_w147 q.1 q.2 := by
  intro q hq
  exact q_s147_0 l s0 hN q hq
abbrev q_wL : List Cond := Cond.initialized "ProofDesk" :: x_Ts
def q_kL_0 (b L : Nat) (xs : Nat → Int32) : List (Nat × xO) := [(0, x_nw_ 3 0 [.null, .null, .int 0, .null, .null, .int 0, .int 0, .null, .null, .int 0]), (3, x_st (x_dup 4)), (4, x_cs 7 67 1), (7, x_sta 8 1), (8, x_nw_ 11 8 [.int 0, .int 0, .int 0, .null, .null, .null, .null, .null, .null, .null, .null, .null, .null, .int 0, .int 0, .int 0, .int 0, .null, .null, .null, .null, .int 0, .int 0, .int 0, .int 0, .null, .null, .null, .int 0, .null, .null, .null, .null, .null, .null, .null, .int 0, .int 0, .int 0]), (11, x_st (x_dup 12)), (12, x_cs 15 91 1), (15, x_sta 16 2), (16, x_st (x_push 17 (.int (1)))), (17, x_nal 19 3), (19, x_sta 20 3), (20, x_st (x_push 21 (.int (0)))), (21, x_sti 23 4), (23, x_ldi 25 4), (25, x_lda 26 0), (26, x_st (x_sln 27 b L)), (27, x_st (x_push 29 (.int (7)))), (29, x_st (x_bin 30 (fun a b => a - b))), (30, x_st (x_icgt 529 33)), (33, x_lda 34 0), (34, x_ldi 36 4), (36, x_st (x_sld 37 b L xs)), (37, x_st (x_push 39 (.int (15)))), (39, x_st (x_bin 40 (fun a b => a &&& b))), (40, x_st (x_tsw 0 12 [108, 135, 179, 297, 310, 323, 348, 373, 410, 435, 472, 485, 510] 523)), (108, x_lda 109 1), (109, x_lda 110 0), (110, x_ldi 112 4), (112, x_st (x_push 113 (.int (1)))), (113, x_st (x_bin 114 (fun a b => a + b))), (114, x_st (x_sld 115 b L xs)), (115, x_st (x_un 116 (fun a => .int (a.toUInt32 % 65536).toInt32))), (116, x_cv 119 68 2 0), (119, x_lda 120 2), (120, x_lda 121 0), (121, x_ldi 123 4), (123, x_st (x_push 124 (.int (1)))), (124, x_st (x_bin 125 (fun a b => a + b))), (125, x_st (x_sld 126 b L xs)), (126, x_st (x_un 127 (fun a => .int (a.toUInt32 % 65536).toInt32)))]
set_option maxRecDepth 100000 in
set_option maxHeartbeats 4000000 in
theorem q_sL_0 (l : Launch) (s0 : State) (b L : Nat) (xs : Nat → Int32) : ∀ q ∈ q_kL_0 b L xs, x_Sim (x_K s0) (some (b, L, xs)) l x code 7 ret q_wL q.1 q.2 := by
  unfold q_kL_0
  refine List.forall_mem_cons.2 ⟨s_new (C := q_n0) (T := q_T0) (N := 10) (idx := 8) q_t0 (by decide +kernel) rfl q_in0 q_ty0 (x_up mw_961) (x_up mw_962) (x_up mw_408) rfl (by decide +kernel) rfl, ?_⟩
  refine List.forall_mem_cons.2 ⟨s_dup (by decide +kernel), ?_⟩
  refine List.forall_mem_cons.2 ⟨s_invokespecial (idx := 25) (M := 67) (k := 0) (ym := q_y67) (wm := q_w67) (by decide +kernel) rfl rfl (x_gd1 mw_963) (x_up mw_964) (x_up mw_965) (x_up mw_408) rfl rfl (by decide +kernel) (by decide), ?_⟩
  refine List.forall_mem_cons.2 ⟨s_astore_n (k := 1) (by decide +kernel) rfl (by decide), ?_⟩
  refine List.forall_mem_cons.2 ⟨s_new (C := q_n8) (T := q_T8) (N := 39) (idx := 26) q_t8 (by decide +kernel) rfl q_in8 q_ty8 (x_up mw_966) (x_up mw_967) (x_up mw_675) rfl (by decide +kernel) rfl, ?_⟩
  refine List.forall_mem_cons.2 ⟨s_dup (by decide +kernel), ?_⟩
  refine List.forall_mem_cons.2 ⟨s_invokespecial (idx := 28) (M := 91) (k := 0) (ym := q_y91) (wm := q_w91) (by decide +kernel) rfl rfl (x_gd1 mw_968) (x_up mw_969) (x_up mw_970) (x_up mw_675) rfl rfl (by decide +kernel) (by decide), ?_⟩
  refine List.forall_mem_cons.2 ⟨s_astore_n (k := 2) (by decide +kernel) rfl (by decide), ?_⟩
  refine List.forall_mem_cons.2 ⟨s_iconst (k := 1) (by decide +kernel) (by decide +kernel), ?_⟩
  refine List.forall_mem_cons.2 ⟨s_newlongs (by decide +kernel) (x_up mw_971) rfl, ?_⟩
  refine List.forall_mem_cons.2 ⟨s_astore_n (k := 3) (by decide +kernel) rfl (by decide), ?_⟩
  refine List.forall_mem_cons.2 ⟨s_iconst (k := 0) (by decide +kernel) (by decide +kernel), ?_⟩
  refine List.forall_mem_cons.2 ⟨s_istore (by decide +kernel) (by decide), ?_⟩
  refine List.forall_mem_cons.2 ⟨s_iload (by decide +kernel), ?_⟩
  refine List.forall_mem_cons.2 ⟨s_aload_n (k := 0) (by decide +kernel) rfl, ?_⟩
  refine List.forall_mem_cons.2 ⟨s_sln (show decode code 26 = .ok (.arraylength, 1) by decide +kernel), ?_⟩
  refine List.forall_mem_cons.2 ⟨s_bipush (k := 7) (by decide +kernel) (by decide +kernel), ?_⟩
  refine List.forall_mem_cons.2 ⟨s_isub (by decide +kernel), ?_⟩
  refine List.forall_mem_cons.2 ⟨s_icmp_gt (off := 499) (by decide +kernel) (by decide), ?_⟩
  refine List.forall_mem_cons.2 ⟨s_aload_n (k := 0) (by decide +kernel) rfl, ?_⟩
  refine List.forall_mem_cons.2 ⟨s_iload (by decide +kernel), ?_⟩
  refine List.forall_mem_cons.2 ⟨s_sld (show decode code 36 = .ok (.iaload, 1) by decide +kernel), ?_⟩
  refine List.forall_mem_cons.2 ⟨s_bipush (k := 15) (by decide +kernel) (by decide +kernel), ?_⟩
  refine List.forall_mem_cons.2 ⟨s_iand (by decide +kernel), ?_⟩
  refine List.forall_mem_cons.2 ⟨s_tsw (dflt := 483) (lo := 0) (hi := 12) (offs := #[68, 95, 139, 257, 270, 283, 308, 333, 370, 395, 432, 445, 470]) (len := 68) (by decide +kernel) (by decide) (by decide +kernel), ?_⟩
  refine List.forall_mem_cons.2 ⟨s_aload_n (k := 1) (by decide +kernel) rfl, ?_⟩
  refine List.forall_mem_cons.2 ⟨s_aload_n (k := 0) (by decide +kernel) rfl, ?_⟩
  refine List.forall_mem_cons.2 ⟨s_iload (by decide +kernel), ?_⟩
  refine List.forall_mem_cons.2 ⟨s_iconst (k := 1) (by decide +kernel) (by decide +kernel), ?_⟩
  refine List.forall_mem_cons.2 ⟨s_iadd (by decide +kernel), ?_⟩
  refine List.forall_mem_cons.2 ⟨s_sld (show decode code 114 = .ok (.iaload, 1) by decide +kernel), ?_⟩
  refine List.forall_mem_cons.2 ⟨s_i2c (by decide +kernel), ?_⟩
  refine List.forall_mem_cons.2 ⟨s_invokevirtual (idx := 29) (M := 68) (k := 1) (ci := 0) (C := q_n0) (T := q_T0) (N := 10) (ym := q_y68) (wm := q_w68) (by decide +kernel) rfl rfl rfl (x_gdV mw_973 mw_974 mw_975 mw_408 mw_972) rfl (by decide +kernel) (by decide), ?_⟩
  refine List.forall_mem_cons.2 ⟨s_aload_n (k := 2) (by decide +kernel) rfl, ?_⟩
  refine List.forall_mem_cons.2 ⟨s_aload_n (k := 0) (by decide +kernel) rfl, ?_⟩
  refine List.forall_mem_cons.2 ⟨s_iload (by decide +kernel), ?_⟩
  refine List.forall_mem_cons.2 ⟨s_iconst (k := 1) (by decide +kernel) (by decide +kernel), ?_⟩
  refine List.forall_mem_cons.2 ⟨s_iadd (by decide +kernel), ?_⟩
  refine List.forall_mem_cons.2 ⟨s_sld (show decode code 125 = .ok (.iaload, 1) by decide +kernel), ?_⟩
  refine List.forall_mem_cons.2 ⟨s_i2c (by decide +kernel), ?_⟩
  exact fun _ h => absurd h List.not_mem_nil
def q_kL_1 (b L : Nat) (xs : Nat → Int32) : List (Nat × xO) := [(127, x_cv 130 94 2 8), (130, x_st (x_iceq 523 133)), (133, x_st (x_push 134 (.int (0)))), (134, x_ri (.boolean)), (135, x_lda 136 1), (136, x_lda 137 3), (137, x_cl_ 140 146 2), (140, x_sti 142 5), (142, x_lda 143 2), (143, x_cv 146 108 1 8), (146, x_sti 148 6), (148, x_lda 149 2), (149, x_cv 152 92 1 8), (152, x_ldi 154 5), (154, x_st (x_iceq 159 157)), (157, x_st (x_push 158 (.int (0)))), (158, x_ri (.boolean)), (159, x_ldi 161 5), (161, x_st (x_ifne 176 164)), (164, x_lda 165 3), (165, x_st (x_push 166 (.int (0)))), (166, x_aldl 167 3), (167, x_ldi 169 6), (169, x_st (x_un 170 (fun a => .long a.toInt64))), (170, x_st (x_lcmp 171)), (171, x_st (x_ifeq 176 174)), (174, x_st (x_push 175 (.int (0)))), (175, x_ri (.boolean)), (176, x_st (x_goto 523)), (179, x_lda 180 1), (180, x_lda 181 0), (181, x_ldi 183 4), (183, x_st (x_push 184 (.int (1)))), (184, x_st (x_bin 185 (fun a b => a + b))), (185, x_st (x_sld 186 b L xs)), (186, x_lda 187 0), (187, x_ldi 189 4), (189, x_st (x_push 190 (.int (2)))), (190, x_st (x_bin 191 (fun a b => a + b))), (191, x_st (x_sld 192 b L xs))]
set_option maxRecDepth 100000 in
set_option maxHeartbeats 4000000 in
theorem q_sL_1 (l : Launch) (s0 : State) (b L : Nat) (xs : Nat → Int32) : ∀ q ∈ q_kL_1 b L xs, x_Sim (x_K s0) (some (b, L, xs)) l x code 7 ret q_wL q.1 q.2 := by
  unfold q_kL_1
  refine List.forall_mem_cons.2 ⟨s_invokevirtual (idx := 33) (M := 94) (k := 1) (ci := 8) (C := q_n8) (T := q_T8) (N := 39) (ym := q_y94) (wm := q_w94) (by decide +kernel) rfl rfl rfl (x_gdV mw_977 mw_978 mw_979 mw_675 mw_976) rfl (by decide +kernel) (by decide), ?_⟩
  refine List.forall_mem_cons.2 ⟨s_icmp_eq (off := 393) (by decide +kernel) (by decide), ?_⟩
  refine List.forall_mem_cons.2 ⟨s_iconst (k := 0) (by decide +kernel) (by decide +kernel), ?_⟩
  refine List.forall_mem_cons.2 ⟨s_ireturn (ty := .boolean) (by decide +kernel) rfl, ?_⟩
  refine List.forall_mem_cons.2 ⟨s_aload_n (k := 1) (by decide +kernel) rfl, ?_⟩
  refine List.forall_mem_cons.2 ⟨s_aload_n (k := 3) (by decide +kernel) rfl, ?_⟩
  refine List.forall_mem_cons.2 ⟨s_invokestaticW (idx := 34) (M := 146) (ym := q_y146) (wm := q_w146) (by decide +kernel) rfl rfl (x_gdS mw_981 mw_982 mw_983 mw_980) rfl (by decide +kernel) (by decide), ?_⟩
  refine List.forall_mem_cons.2 ⟨s_istore (by decide +kernel) (by decide), ?_⟩
  refine List.forall_mem_cons.2 ⟨s_aload_n (k := 2) (by decide +kernel) rfl, ?_⟩
  refine List.forall_mem_cons.2 ⟨s_invokevirtual (idx := 39) (M := 108) (k := 0) (ci := 8) (C := q_n8) (T := q_T8) (N := 39) (ym := q_y108) (wm := q_w108) (by decide +kernel) rfl rfl rfl (x_gdV mw_985 mw_986 mw_987 mw_675 mw_984) rfl (by decide +kernel) (by decide), ?_⟩
  refine List.forall_mem_cons.2 ⟨s_istore (by decide +kernel) (by decide), ?_⟩
  refine List.forall_mem_cons.2 ⟨s_aload_n (k := 2) (by decide +kernel) rfl, ?_⟩
  refine List.forall_mem_cons.2 ⟨s_invokevirtual (idx := 40) (M := 92) (k := 0) (ci := 8) (C := q_n8) (T := q_T8) (N := 39) (ym := q_y92) (wm := q_w92) (by decide +kernel) rfl rfl rfl (x_gdV mw_989 mw_990 mw_991 mw_675 mw_988) rfl (by decide +kernel) (by decide), ?_⟩
  refine List.forall_mem_cons.2 ⟨s_iload (by decide +kernel), ?_⟩
  refine List.forall_mem_cons.2 ⟨s_icmp_eq (off := 5) (by decide +kernel) (by decide), ?_⟩
  refine List.forall_mem_cons.2 ⟨s_iconst (k := 0) (by decide +kernel) (by decide +kernel), ?_⟩
  refine List.forall_mem_cons.2 ⟨s_ireturn (ty := .boolean) (by decide +kernel) rfl, ?_⟩
  refine List.forall_mem_cons.2 ⟨s_iload (by decide +kernel), ?_⟩
  refine List.forall_mem_cons.2 ⟨s_ifne (off := 15) (by decide +kernel) (by decide), ?_⟩
  refine List.forall_mem_cons.2 ⟨s_aload_n (k := 3) (by decide +kernel) rfl, ?_⟩
  refine List.forall_mem_cons.2 ⟨s_iconst (k := 0) (by decide +kernel) (by decide +kernel), ?_⟩
  refine List.forall_mem_cons.2 ⟨s_lald (by decide +kernel) rfl, ?_⟩
  refine List.forall_mem_cons.2 ⟨s_iload (by decide +kernel), ?_⟩
  refine List.forall_mem_cons.2 ⟨s_i2l (by decide +kernel), ?_⟩
  refine List.forall_mem_cons.2 ⟨s_lcmp (by decide +kernel), ?_⟩
  refine List.forall_mem_cons.2 ⟨s_ifeq (off := 5) (by decide +kernel) (by decide), ?_⟩
  refine List.forall_mem_cons.2 ⟨s_iconst (k := 0) (by decide +kernel) (by decide +kernel), ?_⟩
  refine List.forall_mem_cons.2 ⟨s_ireturn (ty := .boolean) (by decide +kernel) rfl, ?_⟩
  refine List.forall_mem_cons.2 ⟨s_goto (off := 347) (by decide +kernel) (by decide), ?_⟩
  refine List.forall_mem_cons.2 ⟨s_aload_n (k := 1) (by decide +kernel) rfl, ?_⟩
  refine List.forall_mem_cons.2 ⟨s_aload_n (k := 0) (by decide +kernel) rfl, ?_⟩
  refine List.forall_mem_cons.2 ⟨s_iload (by decide +kernel), ?_⟩
  refine List.forall_mem_cons.2 ⟨s_iconst (k := 1) (by decide +kernel) (by decide +kernel), ?_⟩
  refine List.forall_mem_cons.2 ⟨s_iadd (by decide +kernel), ?_⟩
  refine List.forall_mem_cons.2 ⟨s_sld (show decode code 185 = .ok (.iaload, 1) by decide +kernel), ?_⟩
  refine List.forall_mem_cons.2 ⟨s_aload_n (k := 0) (by decide +kernel) rfl, ?_⟩
  refine List.forall_mem_cons.2 ⟨s_iload (by decide +kernel), ?_⟩
  refine List.forall_mem_cons.2 ⟨s_iconst (k := 2) (by decide +kernel) (by decide +kernel), ?_⟩
  refine List.forall_mem_cons.2 ⟨s_iadd (by decide +kernel), ?_⟩
  refine List.forall_mem_cons.2 ⟨s_sld (show decode code 191 = .ok (.iaload, 1) by decide +kernel), ?_⟩
  exact fun _ h => absurd h List.not_mem_nil
def q_kL_2 (b L : Nat) (xs : Nat → Int32) : List (Nat × xO) := [(192, x_lda 193 0), (193, x_ldi 195 4), (195, x_st (x_push 196 (.int (3)))), (196, x_st (x_bin 197 (fun a b => a + b))), (197, x_st (x_sld 198 b L xs)), (198, x_lda 199 0), (199, x_ldi 201 4), (201, x_st (x_push 202 (.int (4)))), (202, x_st (x_bin 203 (fun a b => a + b))), (203, x_st (x_sld 204 b L xs)), (204, x_lda 205 0), (205, x_ldi 207 4), (207, x_st (x_push 208 (.int (5)))), (208, x_st (x_bin 209 (fun a b => a + b))), (209, x_st (x_sld 210 b L xs)), (210, x_lda 211 0), (211, x_ldi 213 4), (213, x_st (x_push 215 (.int (6)))), (215, x_st (x_bin 216 (fun a b => a + b))), (216, x_st (x_sld 217 b L xs)), (217, x_lda 218 3), (218, x_cl_ 221 147 8), (221, x_sti 223 5), (223, x_lda 224 2), (224, x_lda 225 0), (225, x_ldi 227 4), (227, x_st (x_push 228 (.int (1)))), (228, x_st (x_bin 229 (fun a b => a + b))), (229, x_st (x_sld 230 b L xs)), (230, x_lda 231 0), (231, x_ldi 233 4), (233, x_st (x_push 234 (.int (2)))), (234, x_st (x_bin 235 (fun a b => a + b))), (235, x_st (x_sld 236 b L xs)), (236, x_lda 237 0), (237, x_ldi 239 4), (239, x_st (x_push 240 (.int (3)))), (240, x_st (x_bin 241 (fun a b => a + b))), (241, x_st (x_sld 242 b L xs)), (242, x_lda 243 0)]
set_option maxRecDepth 100000 in
set_option maxHeartbeats 4000000 in
theorem q_sL_2 (l : Launch) (s0 : State) (b L : Nat) (xs : Nat → Int32) : ∀ q ∈ q_kL_2 b L xs, x_Sim (x_K s0) (some (b, L, xs)) l x code 7 ret q_wL q.1 q.2 := by
  unfold q_kL_2
  refine List.forall_mem_cons.2 ⟨s_aload_n (k := 0) (by decide +kernel) rfl, ?_⟩
  refine List.forall_mem_cons.2 ⟨s_iload (by decide +kernel), ?_⟩
  refine List.forall_mem_cons.2 ⟨s_iconst (k := 3) (by decide +kernel) (by decide +kernel), ?_⟩
  refine List.forall_mem_cons.2 ⟨s_iadd (by decide +kernel), ?_⟩
  refine List.forall_mem_cons.2 ⟨s_sld (show decode code 197 = .ok (.iaload, 1) by decide +kernel), ?_⟩
  refine List.forall_mem_cons.2 ⟨s_aload_n (k := 0) (by decide +kernel) rfl, ?_⟩
  refine List.forall_mem_cons.2 ⟨s_iload (by decide +kernel), ?_⟩
  refine List.forall_mem_cons.2 ⟨s_iconst (k := 4) (by decide +kernel) (by decide +kernel), ?_⟩
  refine List.forall_mem_cons.2 ⟨s_iadd (by decide +kernel), ?_⟩
  refine List.forall_mem_cons.2 ⟨s_sld (show decode code 203 = .ok (.iaload, 1) by decide +kernel), ?_⟩
  refine List.forall_mem_cons.2 ⟨s_aload_n (k := 0) (by decide +kernel) rfl, ?_⟩
  refine List.forall_mem_cons.2 ⟨s_iload (by decide +kernel), ?_⟩
  refine List.forall_mem_cons.2 ⟨s_iconst (k := 5) (by decide +kernel) (by decide +kernel), ?_⟩
  refine List.forall_mem_cons.2 ⟨s_iadd (by decide +kernel), ?_⟩
  refine List.forall_mem_cons.2 ⟨s_sld (show decode code 209 = .ok (.iaload, 1) by decide +kernel), ?_⟩
  refine List.forall_mem_cons.2 ⟨s_aload_n (k := 0) (by decide +kernel) rfl, ?_⟩
  refine List.forall_mem_cons.2 ⟨s_iload (by decide +kernel), ?_⟩
  refine List.forall_mem_cons.2 ⟨s_bipush (k := 6) (by decide +kernel) (by decide +kernel), ?_⟩
  refine List.forall_mem_cons.2 ⟨s_iadd (by decide +kernel), ?_⟩
  refine List.forall_mem_cons.2 ⟨s_sld (show decode code 216 = .ok (.iaload, 1) by decide +kernel), ?_⟩
  refine List.forall_mem_cons.2 ⟨s_aload_n (k := 3) (by decide +kernel) rfl, ?_⟩
  refine List.forall_mem_cons.2 ⟨s_invokestaticW (idx := 43) (M := 147) (ym := q_y147) (wm := q_w147) (by decide +kernel) rfl rfl (x_gdS mw_993 mw_994 mw_983 mw_992) rfl (by decide +kernel) (by decide), ?_⟩
  refine List.forall_mem_cons.2 ⟨s_istore (by decide +kernel) (by decide), ?_⟩
  refine List.forall_mem_cons.2 ⟨s_aload_n (k := 2) (by decide +kernel) rfl, ?_⟩
  refine List.forall_mem_cons.2 ⟨s_aload_n (k := 0) (by decide +kernel) rfl, ?_⟩
  refine List.forall_mem_cons.2 ⟨s_iload (by decide +kernel), ?_⟩
  refine List.forall_mem_cons.2 ⟨s_iconst (k := 1) (by decide +kernel) (by decide +kernel), ?_⟩
  refine List.forall_mem_cons.2 ⟨s_iadd (by decide +kernel), ?_⟩
  refine List.forall_mem_cons.2 ⟨s_sld (show decode code 229 = .ok (.iaload, 1) by decide +kernel), ?_⟩
  refine List.forall_mem_cons.2 ⟨s_aload_n (k := 0) (by decide +kernel) rfl, ?_⟩
  refine List.forall_mem_cons.2 ⟨s_iload (by decide +kernel), ?_⟩
  refine List.forall_mem_cons.2 ⟨s_iconst (k := 2) (by decide +kernel) (by decide +kernel), ?_⟩
  refine List.forall_mem_cons.2 ⟨s_iadd (by decide +kernel), ?_⟩
  refine List.forall_mem_cons.2 ⟨s_sld (show decode code 235 = .ok (.iaload, 1) by decide +kernel), ?_⟩
  refine List.forall_mem_cons.2 ⟨s_aload_n (k := 0) (by decide +kernel) rfl, ?_⟩
  refine List.forall_mem_cons.2 ⟨s_iload (by decide +kernel), ?_⟩
  refine List.forall_mem_cons.2 ⟨s_iconst (k := 3) (by decide +kernel) (by decide +kernel), ?_⟩
  refine List.forall_mem_cons.2 ⟨s_iadd (by decide +kernel), ?_⟩
  refine List.forall_mem_cons.2 ⟨s_sld (show decode code 241 = .ok (.iaload, 1) by decide +kernel), ?_⟩
  refine List.forall_mem_cons.2 ⟨s_aload_n (k := 0) (by decide +kernel) rfl, ?_⟩
  exact fun _ h => absurd h List.not_mem_nil
def q_kL_3 (b L : Nat) (xs : Nat → Int32) : List (Nat × xO) := [(243, x_ldi 245 4), (245, x_st (x_push 246 (.int (4)))), (246, x_st (x_bin 247 (fun a b => a + b))), (247, x_st (x_sld 248 b L xs)), (248, x_lda 249 0), (249, x_ldi 251 4), (251, x_st (x_push 252 (.int (5)))), (252, x_st (x_bin 253 (fun a b => a + b))), (253, x_st (x_sld 254 b L xs)), (254, x_lda 255 0), (255, x_ldi 257 4), (257, x_st (x_push 259 (.int (6)))), (259, x_st (x_bin 260 (fun a b => a + b))), (260, x_st (x_sld 261 b L xs)), (261, x_cv 264 121 7 8), (264, x_sti 266 6), (266, x_lda 267 2), (267, x_cv 270 92 1 8), (270, x_ldi 272 5), (272, x_st (x_iceq 277 275)), (275, x_st (x_push 276 (.int (0)))), (276, x_ri (.boolean)), (277, x_ldi 279 5), (279, x_st (x_ifne 294 282)), (282, x_lda 283 3), (283, x_st (x_push 284 (.int (0)))), (284, x_aldl 285 3), (285, x_ldi 287 6), (287, x_st (x_un 288 (fun a => .long a.toInt64))), (288, x_st (x_lcmp 289)), (289, x_st (x_ifeq 294 292)), (292, x_st (x_push 293 (.int (0)))), (293, x_ri (.boolean)), (294, x_st (x_goto 523)), (297, x_lda 298 1), (298, x_cv 301 71 1 0), (301, x_lda 302 2), (302, x_cv 305 132 1 8), (305, x_st (x_iceq 523 308)), (308, x_st (x_push 309 (.int (0))))]
set_option maxRecDepth 100000 in
set_option maxHeartbeats 4000000 in
theorem q_sL_3 (l : Launch) (s0 : State) (b L : Nat) (xs : Nat → Int32) : ∀ q ∈ q_kL_3 b L xs, x_Sim (x_K s0) (some (b, L, xs)) l x code 7 ret q_wL q.1 q.2 := by
  unfold q_kL_3
  refine List.forall_mem_cons.2 ⟨s_iload (by decide +kernel), ?_⟩
  refine List.forall_mem_cons.2 ⟨s_iconst (k := 4) (by decide +kernel) (by decide +kernel), ?_⟩
  refine List.forall_mem_cons.2 ⟨s_iadd (by decide +kernel), ?_⟩
  refine List.forall_mem_cons.2 ⟨s_sld (show decode code 247 = .ok (.iaload, 1) by decide +kernel), ?_⟩
  refine List.forall_mem_cons.2 ⟨s_aload_n (k := 0) (by decide +kernel) rfl, ?_⟩
  refine List.forall_mem_cons.2 ⟨s_iload (by decide +kernel), ?_⟩
  refine List.forall_mem_cons.2 ⟨s_iconst (k := 5) (by decide +kernel) (by decide +kernel), ?_⟩
  refine List.forall_mem_cons.2 ⟨s_iadd (by decide +kernel), ?_⟩
  refine List.forall_mem_cons.2 ⟨s_sld (show decode code 253 = .ok (.iaload, 1) by decide +kernel), ?_⟩
  refine List.forall_mem_cons.2 ⟨s_aload_n (k := 0) (by decide +kernel) rfl, ?_⟩
  refine List.forall_mem_cons.2 ⟨s_iload (by decide +kernel), ?_⟩
  refine List.forall_mem_cons.2 ⟨s_bipush (k := 6) (by decide +kernel) (by decide +kernel), ?_⟩
  refine List.forall_mem_cons.2 ⟨s_iadd (by decide +kernel), ?_⟩
  refine List.forall_mem_cons.2 ⟨s_sld (show decode code 260 = .ok (.iaload, 1) by decide +kernel), ?_⟩
  refine List.forall_mem_cons.2 ⟨s_invokevirtual (idx := 46) (M := 121) (k := 6) (ci := 8) (C := q_n8) (T := q_T8) (N := 39) (ym := q_y121) (wm := q_w121) (by decide +kernel) rfl rfl rfl (x_gdV mw_996 mw_997 mw_998 mw_675 mw_995) rfl (by decide +kernel) (by decide), ?_⟩
  refine List.forall_mem_cons.2 ⟨s_istore (by decide +kernel) (by decide), ?_⟩
  refine List.forall_mem_cons.2 ⟨s_aload_n (k := 2) (by decide +kernel) rfl, ?_⟩
  refine List.forall_mem_cons.2 ⟨s_invokevirtual (idx := 40) (M := 92) (k := 0) (ci := 8) (C := q_n8) (T := q_T8) (N := 39) (ym := q_y92) (wm := q_w92) (by decide +kernel) rfl rfl rfl (x_gdV mw_989 mw_990 mw_991 mw_675 mw_988) rfl (by decide +kernel) (by decide), ?_⟩
  refine List.forall_mem_cons.2 ⟨s_iload (by decide +kernel), ?_⟩
  refine List.forall_mem_cons.2 ⟨s_icmp_eq (off := 5) (by decide +kernel) (by decide), ?_⟩
  refine List.forall_mem_cons.2 ⟨s_iconst (k := 0) (by decide +kernel) (by decide +kernel), ?_⟩
  refine List.forall_mem_cons.2 ⟨s_ireturn (ty := .boolean) (by decide +kernel) rfl, ?_⟩
  refine List.forall_mem_cons.2 ⟨s_iload (by decide +kernel), ?_⟩
  refine List.forall_mem_cons.2 ⟨s_ifne (off := 15) (by decide +kernel) (by decide), ?_⟩
  refine List.forall_mem_cons.2 ⟨s_aload_n (k := 3) (by decide +kernel) rfl, ?_⟩
  refine List.forall_mem_cons.2 ⟨s_iconst (k := 0) (by decide +kernel) (by decide +kernel), ?_⟩
  refine List.forall_mem_cons.2 ⟨s_lald (by decide +kernel) rfl, ?_⟩
  refine List.forall_mem_cons.2 ⟨s_iload (by decide +kernel), ?_⟩
  refine List.forall_mem_cons.2 ⟨s_i2l (by decide +kernel), ?_⟩
  refine List.forall_mem_cons.2 ⟨s_lcmp (by decide +kernel), ?_⟩
  refine List.forall_mem_cons.2 ⟨s_ifeq (off := 5) (by decide +kernel) (by decide), ?_⟩
  refine List.forall_mem_cons.2 ⟨s_iconst (k := 0) (by decide +kernel) (by decide +kernel), ?_⟩
  refine List.forall_mem_cons.2 ⟨s_ireturn (ty := .boolean) (by decide +kernel) rfl, ?_⟩
  refine List.forall_mem_cons.2 ⟨s_goto (off := 229) (by decide +kernel) (by decide), ?_⟩
  refine List.forall_mem_cons.2 ⟨s_aload_n (k := 1) (by decide +kernel) rfl, ?_⟩
  refine List.forall_mem_cons.2 ⟨s_invokevirtual (idx := 47) (M := 71) (k := 0) (ci := 0) (C := q_n0) (T := q_T0) (N := 10) (ym := q_y71) (wm := q_w71) (by decide +kernel) rfl rfl rfl (x_gdV mw_1000 mw_1001 mw_1002 mw_408 mw_999) rfl (by decide +kernel) (by decide), ?_⟩
  refine List.forall_mem_cons.2 ⟨s_aload_n (k := 2) (by decide +kernel) rfl, ?_⟩
  refine List.forall_mem_cons.2 ⟨s_invokevirtual (idx := 50) (M := 132) (k := 0) (ci := 8) (C := q_n8) (T := q_T8) (N := 39) (ym := q_y132) (wm := q_w132) (by decide +kernel) rfl rfl rfl (x_gdV mw_1004 mw_1005 mw_1006 mw_675 mw_1003) rfl (by decide +kernel) (by decide), ?_⟩
  refine List.forall_mem_cons.2 ⟨s_icmp_eq (off := 218) (by decide +kernel) (by decide), ?_⟩
  refine List.forall_mem_cons.2 ⟨s_iconst (k := 0) (by decide +kernel) (by decide +kernel), ?_⟩
  exact fun _ h => absurd h List.not_mem_nil
def q_kL_4 (b L : Nat) (xs : Nat → Int32) : List (Nat × xO) := [(309, x_ri (.boolean)), (310, x_lda 311 1), (311, x_cv 314 72 1 0), (314, x_lda 315 2), (315, x_cv 318 133 1 8), (318, x_st (x_iceq 523 321)), (321, x_st (x_push 322 (.int (0)))), (322, x_ri (.boolean)), (323, x_lda 324 1), (324, x_lda 325 0), (325, x_ldi 327 4), (327, x_st (x_push 328 (.int (1)))), (328, x_st (x_bin 329 (fun a b => a + b))), (329, x_st (x_sld 330 b L xs)), (330, x_cv 333 73 2 0), (333, x_lda 334 2), (334, x_lda 335 0), (335, x_ldi 337 4), (337, x_st (x_push 338 (.int (1)))), (338, x_st (x_bin 339 (fun a b => a + b))), (339, x_st (x_sld 340 b L xs)), (340, x_cv 343 135 2 8), (343, x_st (x_iceq 523 346)), (346, x_st (x_push 347 (.int (0)))), (347, x_ri (.boolean)), (348, x_lda 349 1), (349, x_lda 350 0), (350, x_ldi 352 4), (352, x_st (x_push 353 (.int (1)))), (353, x_st (x_bin 354 (fun a b => a + b))), (354, x_st (x_sld 355 b L xs)), (355, x_cv 358 74 2 0), (358, x_lda 359 2), (359, x_lda 360 0), (360, x_ldi 362 4), (362, x_st (x_push 363 (.int (1)))), (363, x_st (x_bin 364 (fun a b => a + b))), (364, x_st (x_sld 365 b L xs)), (365, x_cv 368 136 2 8), (368, x_st (x_iceq 523 371))]
set_option maxRecDepth 100000 in
set_option maxHeartbeats 4000000 in
theorem q_sL_4 (l : Launch) (s0 : State) (b L : Nat) (xs : Nat → Int32) : ∀ q ∈ q_kL_4 b L xs, x_Sim (x_K s0) (some (b, L, xs)) l x code 7 ret q_wL q.1 q.2 := by
  unfold q_kL_4
  refine List.forall_mem_cons.2 ⟨s_ireturn (ty := .boolean) (by decide +kernel) rfl, ?_⟩
  refine List.forall_mem_cons.2 ⟨s_aload_n (k := 1) (by decide +kernel) rfl, ?_⟩
  refine List.forall_mem_cons.2 ⟨s_invokevirtual (idx := 51) (M := 72) (k := 0) (ci := 0) (C := q_n0) (T := q_T0) (N := 10) (ym := q_y72) (wm := q_w72) (by decide +kernel) rfl rfl rfl (x_gdV mw_1008 mw_1009 mw_1010 mw_408 mw_1007) rfl (by decide +kernel) (by decide), ?_⟩
  refine List.forall_mem_cons.2 ⟨s_aload_n (k := 2) (by decide +kernel) rfl, ?_⟩
  refine List.forall_mem_cons.2 ⟨s_invokevirtual (idx := 54) (M := 133) (k := 0) (ci := 8) (C := q_n8) (T := q_T8) (N := 39) (ym := q_y133) (wm := q_w133) (by decide +kernel) rfl rfl rfl (x_gdV mw_1012 mw_1013 mw_1014 mw_675 mw_1011) rfl (by decide +kernel) (by decide), ?_⟩
  refine List.forall_mem_cons.2 ⟨s_icmp_eq (off := 205) (by decide +kernel) (by decide), ?_⟩
  refine List.forall_mem_cons.2 ⟨s_iconst (k := 0) (by decide +kernel) (by decide +kernel), ?_⟩
  refine List.forall_mem_cons.2 ⟨s_ireturn (ty := .boolean) (by decide +kernel) rfl, ?_⟩
  refine List.forall_mem_cons.2 ⟨s_aload_n (k := 1) (by decide +kernel) rfl, ?_⟩
  refine List.forall_mem_cons.2 ⟨s_aload_n (k := 0) (by decide +kernel) rfl, ?_⟩
  refine List.forall_mem_cons.2 ⟨s_iload (by decide +kernel), ?_⟩
  refine List.forall_mem_cons.2 ⟨s_iconst (k := 1) (by decide +kernel) (by decide +kernel), ?_⟩
  refine List.forall_mem_cons.2 ⟨s_iadd (by decide +kernel), ?_⟩
  refine List.forall_mem_cons.2 ⟨s_sld (show decode code 329 = .ok (.iaload, 1) by decide +kernel), ?_⟩
  refine List.forall_mem_cons.2 ⟨s_invokevirtual (idx := 55) (M := 73) (k := 1) (ci := 0) (C := q_n0) (T := q_T0) (N := 10) (ym := q_y73) (wm := q_w73) (by decide +kernel) rfl rfl rfl (x_gdV mw_1016 mw_1017 mw_1018 mw_408 mw_1015) rfl (by decide +kernel) (by decide), ?_⟩
  refine List.forall_mem_cons.2 ⟨s_aload_n (k := 2) (by decide +kernel) rfl, ?_⟩
  refine List.forall_mem_cons.2 ⟨s_aload_n (k := 0) (by decide +kernel) rfl, ?_⟩
  refine List.forall_mem_cons.2 ⟨s_iload (by decide +kernel), ?_⟩
  refine List.forall_mem_cons.2 ⟨s_iconst (k := 1) (by decide +kernel) (by decide +kernel), ?_⟩
  refine List.forall_mem_cons.2 ⟨s_iadd (by decide +kernel), ?_⟩
  refine List.forall_mem_cons.2 ⟨s_sld (show decode code 339 = .ok (.iaload, 1) by decide +kernel), ?_⟩
  refine List.forall_mem_cons.2 ⟨s_invokevirtual (idx := 59) (M := 135) (k := 1) (ci := 8) (C := q_n8) (T := q_T8) (N := 39) (ym := q_y135) (wm := q_w135) (by decide +kernel) rfl rfl rfl (x_gdV mw_1020 mw_1021 mw_1022 mw_675 mw_1019) rfl (by decide +kernel) (by decide), ?_⟩
  refine List.forall_mem_cons.2 ⟨s_icmp_eq (off := 180) (by decide +kernel) (by decide), ?_⟩
  refine List.forall_mem_cons.2 ⟨s_iconst (k := 0) (by decide +kernel) (by decide +kernel), ?_⟩
  refine List.forall_mem_cons.2 ⟨s_ireturn (ty := .boolean) (by decide +kernel) rfl, ?_⟩
  refine List.forall_mem_cons.2 ⟨s_aload_n (k := 1) (by decide +kernel) rfl, ?_⟩
  refine List.forall_mem_cons.2 ⟨s_aload_n (k := 0) (by decide +kernel) rfl, ?_⟩
  refine List.forall_mem_cons.2 ⟨s_iload (by decide +kernel), ?_⟩
  refine List.forall_mem_cons.2 ⟨s_iconst (k := 1) (by decide +kernel) (by decide +kernel), ?_⟩
  refine List.forall_mem_cons.2 ⟨s_iadd (by decide +kernel), ?_⟩
  refine List.forall_mem_cons.2 ⟨s_sld (show decode code 354 = .ok (.iaload, 1) by decide +kernel), ?_⟩
  refine List.forall_mem_cons.2 ⟨s_invokevirtual (idx := 60) (M := 74) (k := 1) (ci := 0) (C := q_n0) (T := q_T0) (N := 10) (ym := q_y74) (wm := q_w74) (by decide +kernel) rfl rfl rfl (x_gdV mw_1024 mw_1025 mw_1026 mw_408 mw_1023) rfl (by decide +kernel) (by decide), ?_⟩
  refine List.forall_mem_cons.2 ⟨s_aload_n (k := 2) (by decide +kernel) rfl, ?_⟩
  refine List.forall_mem_cons.2 ⟨s_aload_n (k := 0) (by decide +kernel) rfl, ?_⟩
  refine List.forall_mem_cons.2 ⟨s_iload (by decide +kernel), ?_⟩
  refine List.forall_mem_cons.2 ⟨s_iconst (k := 1) (by decide +kernel) (by decide +kernel), ?_⟩
  refine List.forall_mem_cons.2 ⟨s_iadd (by decide +kernel), ?_⟩
  refine List.forall_mem_cons.2 ⟨s_sld (show decode code 364 = .ok (.iaload, 1) by decide +kernel), ?_⟩
  refine List.forall_mem_cons.2 ⟨s_invokevirtual (idx := 63) (M := 136) (k := 1) (ci := 8) (C := q_n8) (T := q_T8) (N := 39) (ym := q_y136) (wm := q_w136) (by decide +kernel) rfl rfl rfl (x_gdV mw_1028 mw_1029 mw_1030 mw_675 mw_1027) rfl (by decide +kernel) (by decide), ?_⟩
  refine List.forall_mem_cons.2 ⟨s_icmp_eq (off := 155) (by decide +kernel) (by decide), ?_⟩
  exact fun _ h => absurd h List.not_mem_nil
def q_kL_5 (b L : Nat) (xs : Nat → Int32) : List (Nat × xO) := [(371, x_st (x_push 372 (.int (0)))), (372, x_ri (.boolean)), (373, x_lda 374 1), (374, x_lda 375 0), (375, x_ldi 377 4), (377, x_st (x_push 378 (.int (1)))), (378, x_st (x_bin 379 (fun a b => a + b))), (379, x_st (x_sld 380 b L xs)), (380, x_lda 381 0), (381, x_ldi 383 4), (383, x_st (x_push 384 (.int (2)))), (384, x_st (x_bin 385 (fun a b => a + b))), (385, x_st (x_sld 386 b L xs)), (386, x_cv 389 75 3 0), (389, x_lda 390 2), (390, x_lda 391 0), (391, x_ldi 393 4), (393, x_st (x_push 394 (.int (1)))), (394, x_st (x_bin 395 (fun a b => a + b))), (395, x_st (x_sld 396 b L xs)), (396, x_lda 397 0), (397, x_ldi 399 4), (399, x_st (x_push 400 (.int (2)))), (400, x_st (x_bin 401 (fun a b => a + b))), (401, x_st (x_sld 402 b L xs)), (402, x_cv 405 140 3 8), (405, x_st (x_iceq 523 408)), (408, x_st (x_push 409 (.int (0)))), (409, x_ri (.boolean)), (410, x_lda 411 1), (411, x_lda 412 0), (412, x_ldi 414 4), (414, x_st (x_push 415 (.int (1)))), (415, x_st (x_bin 416 (fun a b => a + b))), (416, x_st (x_sld 417 b L xs)), (417, x_cv 420 76 2 0), (420, x_lda 421 2), (421, x_lda 422 0), (422, x_ldi 424 4), (424, x_st (x_push 425 (.int (1))))]
set_option maxRecDepth 100000 in
set_option maxHeartbeats 4000000 in
theorem q_sL_5 (l : Launch) (s0 : State) (b L : Nat) (xs : Nat → Int32) : ∀ q ∈ q_kL_5 b L xs, x_Sim (x_K s0) (some (b, L, xs)) l x code 7 ret q_wL q.1 q.2 := by
  unfold q_kL_5
  refine List.forall_mem_cons.2 ⟨s_iconst (k := 0) (by decide +kernel) (by decide +kernel), ?_⟩
  refine List.forall_mem_cons.2 ⟨s_ireturn (ty := .boolean) (by decide +kernel) rfl, ?_⟩
  refine List.forall_mem_cons.2 ⟨s_aload_n (k := 1) (by decide +kernel) rfl, ?_⟩
  refine List.forall_mem_cons.2 ⟨s_aload_n (k := 0) (by decide +kernel) rfl, ?_⟩
  refine List.forall_mem_cons.2 ⟨s_iload (by decide +kernel), ?_⟩
  refine List.forall_mem_cons.2 ⟨s_iconst (k := 1) (by decide +kernel) (by decide +kernel), ?_⟩
  refine List.forall_mem_cons.2 ⟨s_iadd (by decide +kernel), ?_⟩
  refine List.forall_mem_cons.2 ⟨s_sld (show decode code 379 = .ok (.iaload, 1) by decide +kernel), ?_⟩
  refine List.forall_mem_cons.2 ⟨s_aload_n (k := 0) (by decide +kernel) rfl, ?_⟩
  refine List.forall_mem_cons.2 ⟨s_iload (by decide +kernel), ?_⟩
  refine List.forall_mem_cons.2 ⟨s_iconst (k := 2) (by decide +kernel) (by decide +kernel), ?_⟩
  refine List.forall_mem_cons.2 ⟨s_iadd (by decide +kernel), ?_⟩
  refine List.forall_mem_cons.2 ⟨s_sld (show decode code 385 = .ok (.iaload, 1) by decide +kernel), ?_⟩
  refine List.forall_mem_cons.2 ⟨s_invokevirtual (idx := 64) (M := 75) (k := 2) (ci := 0) (C := q_n0) (T := q_T0) (N := 10) (ym := q_y75) (wm := q_w75) (by decide +kernel) rfl rfl rfl (x_gdV mw_1032 mw_1033 mw_1034 mw_408 mw_1031) rfl (by decide +kernel) (by decide), ?_⟩
  refine List.forall_mem_cons.2 ⟨s_aload_n (k := 2) (by decide +kernel) rfl, ?_⟩
  refine List.forall_mem_cons.2 ⟨s_aload_n (k := 0) (by decide +kernel) rfl, ?_⟩
  refine List.forall_mem_cons.2 ⟨s_iload (by decide +kernel), ?_⟩
  refine List.forall_mem_cons.2 ⟨s_iconst (k := 1) (by decide +kernel) (by decide +kernel), ?_⟩
  refine List.forall_mem_cons.2 ⟨s_iadd (by decide +kernel), ?_⟩
  refine List.forall_mem_cons.2 ⟨s_sld (show decode code 395 = .ok (.iaload, 1) by decide +kernel), ?_⟩
  refine List.forall_mem_cons.2 ⟨s_aload_n (k := 0) (by decide +kernel) rfl, ?_⟩
  refine List.forall_mem_cons.2 ⟨s_iload (by decide +kernel), ?_⟩
  refine List.forall_mem_cons.2 ⟨s_iconst (k := 2) (by decide +kernel) (by decide +kernel), ?_⟩
  refine List.forall_mem_cons.2 ⟨s_iadd (by decide +kernel), ?_⟩
  refine List.forall_mem_cons.2 ⟨s_sld (show decode code 401 = .ok (.iaload, 1) by decide +kernel), ?_⟩
  refine List.forall_mem_cons.2 ⟨s_invokevirtual (idx := 68) (M := 140) (k := 2) (ci := 8) (C := q_n8) (T := q_T8) (N := 39) (ym := q_y140) (wm := q_w140) (by decide +kernel) rfl rfl rfl (x_gdV mw_1036 mw_1037 mw_1038 mw_675 mw_1035) rfl (by decide +kernel) (by decide), ?_⟩
  refine List.forall_mem_cons.2 ⟨s_icmp_eq (off := 118) (by decide +kernel) (by decide), ?_⟩
  refine List.forall_mem_cons.2 ⟨s_iconst (k := 0) (by decide +kernel) (by decide +kernel), ?_⟩
  refine List.forall_mem_cons.2 ⟨s_ireturn (ty := .boolean) (by decide +kernel) rfl, ?_⟩
  refine List.forall_mem_cons.2 ⟨s_aload_n (k := 1) (by decide +kernel) rfl, ?_⟩
  refine List.forall_mem_cons.2 ⟨s_aload_n (k := 0) (by decide +kernel) rfl, ?_⟩
  refine List.forall_mem_cons.2 ⟨s_iload (by decide +kernel), ?_⟩
  refine List.forall_mem_cons.2 ⟨s_iconst (k := 1) (by decide +kernel) (by decide +kernel), ?_⟩
  refine List.forall_mem_cons.2 ⟨s_iadd (by decide +kernel), ?_⟩
  refine List.forall_mem_cons.2 ⟨s_sld (show decode code 416 = .ok (.iaload, 1) by decide +kernel), ?_⟩
  refine List.forall_mem_cons.2 ⟨s_invokevirtual (idx := 69) (M := 76) (k := 1) (ci := 0) (C := q_n0) (T := q_T0) (N := 10) (ym := q_y76) (wm := q_w76) (by decide +kernel) rfl rfl rfl (x_gdV mw_1040 mw_1041 mw_1042 mw_408 mw_1039) rfl (by decide +kernel) (by decide), ?_⟩
  refine List.forall_mem_cons.2 ⟨s_aload_n (k := 2) (by decide +kernel) rfl, ?_⟩
  refine List.forall_mem_cons.2 ⟨s_aload_n (k := 0) (by decide +kernel) rfl, ?_⟩
  refine List.forall_mem_cons.2 ⟨s_iload (by decide +kernel), ?_⟩
  refine List.forall_mem_cons.2 ⟨s_iconst (k := 1) (by decide +kernel) (by decide +kernel), ?_⟩
  exact fun _ h => absurd h List.not_mem_nil
def q_kL_6 (b L : Nat) (xs : Nat → Int32) : List (Nat × xO) := [(425, x_st (x_bin 426 (fun a b => a + b))), (426, x_st (x_sld 427 b L xs)), (427, x_cv 430 141 2 8), (430, x_st (x_iceq 523 433)), (433, x_st (x_push 434 (.int (0)))), (434, x_ri (.boolean)), (435, x_lda 436 1), (436, x_lda 437 0), (437, x_ldi 439 4), (439, x_st (x_push 440 (.int (1)))), (440, x_st (x_bin 441 (fun a b => a + b))), (441, x_st (x_sld 442 b L xs)), (442, x_lda 443 0), (443, x_ldi 445 4), (445, x_st (x_push 446 (.int (2)))), (446, x_st (x_bin 447 (fun a b => a + b))), (447, x_st (x_sld 448 b L xs)), (448, x_cv 451 77 3 0), (451, x_lda 452 2), (452, x_lda 453 0), (453, x_ldi 455 4), (455, x_st (x_push 456 (.int (1)))), (456, x_st (x_bin 457 (fun a b => a + b))), (457, x_st (x_sld 458 b L xs)), (458, x_lda 459 0), (459, x_ldi 461 4), (461, x_st (x_push 462 (.int (2)))), (462, x_st (x_bin 463 (fun a b => a + b))), (463, x_st (x_sld 464 b L xs)), (464, x_cv 467 142 3 8), (467, x_st (x_iceq 523 470)), (470, x_st (x_push 471 (.int (0)))), (471, x_ri (.boolean)), (472, x_lda 473 1), (473, x_cv 476 78 1 0), (476, x_lda 477 2), (477, x_cv 480 143 1 8), (480, x_st (x_iceq 523 483)), (483, x_st (x_push 484 (.int (0)))), (484, x_ri (.boolean))]
set_option maxRecDepth 100000 in
set_option maxHeartbeats 4000000 in
theorem q_sL_6 (l : Launch) (s0 : State) (b L : Nat) (xs : Nat → Int32) : ∀ q ∈ q_kL_6 b L xs, x_Sim (x_K s0) (some (b, L, xs)) l x code 7 ret q_wL q.1 q.2 := by
  unfold q_kL_6
  refine List.forall_mem_cons.2 ⟨s_iadd (by decide +kernel), ?_⟩
  refine List.forall_mem_cons.2 ⟨s_sld (show decode code 426 = .ok (.iaload, 1) by decide +kernel), ?_⟩
  refine List.forall_mem_cons.2 ⟨s_invokevirtual (idx := 72) (M := 141) (k := 1) (ci := 8) (C := q_n8) (T := q_T8) (N := 39) (ym := q_y141) (wm := q_w141) (by decide +kernel) rfl rfl rfl (x_gdV mw_1044 mw_1045 mw_1046 mw_675 mw_1043) rfl (by decide +kernel) (by decide), ?_⟩
  refine List.forall_mem_cons.2 ⟨s_icmp_eq (off := 93) (by decide +kernel) (by decide), ?_⟩
  refine List.forall_mem_cons.2 ⟨s_iconst (k := 0) (by decide +kernel) (by decide +kernel), ?_⟩
  refine List.forall_mem_cons.2 ⟨s_ireturn (ty := .boolean) (by decide +kernel) rfl, ?_⟩
  refine List.forall_mem_cons.2 ⟨s_aload_n (k := 1) (by decide +kernel) rfl, ?_⟩
  refine List.forall_mem_cons.2 ⟨s_aload_n (k := 0) (by decide +kernel) rfl, ?_⟩
  refine List.forall_mem_cons.2 ⟨s_iload (by decide +kernel), ?_⟩
  refine List.forall_mem_cons.2 ⟨s_iconst (k := 1) (by decide +kernel) (by decide +kernel), ?_⟩
  refine List.forall_mem_cons.2 ⟨s_iadd (by decide +kernel), ?_⟩
  refine List.forall_mem_cons.2 ⟨s_sld (show decode code 441 = .ok (.iaload, 1) by decide +kernel), ?_⟩
  refine List.forall_mem_cons.2 ⟨s_aload_n (k := 0) (by decide +kernel) rfl, ?_⟩
  refine List.forall_mem_cons.2 ⟨s_iload (by decide +kernel), ?_⟩
  refine List.forall_mem_cons.2 ⟨s_iconst (k := 2) (by decide +kernel) (by decide +kernel), ?_⟩
  refine List.forall_mem_cons.2 ⟨s_iadd (by decide +kernel), ?_⟩
  refine List.forall_mem_cons.2 ⟨s_sld (show decode code 447 = .ok (.iaload, 1) by decide +kernel), ?_⟩
  refine List.forall_mem_cons.2 ⟨s_invokevirtual (idx := 73) (M := 77) (k := 2) (ci := 0) (C := q_n0) (T := q_T0) (N := 10) (ym := q_y77) (wm := q_w77) (by decide +kernel) rfl rfl rfl (x_gdV mw_1048 mw_1049 mw_1050 mw_408 mw_1047) rfl (by decide +kernel) (by decide), ?_⟩
  refine List.forall_mem_cons.2 ⟨s_aload_n (k := 2) (by decide +kernel) rfl, ?_⟩
  refine List.forall_mem_cons.2 ⟨s_aload_n (k := 0) (by decide +kernel) rfl, ?_⟩
  refine List.forall_mem_cons.2 ⟨s_iload (by decide +kernel), ?_⟩
  refine List.forall_mem_cons.2 ⟨s_iconst (k := 1) (by decide +kernel) (by decide +kernel), ?_⟩
  refine List.forall_mem_cons.2 ⟨s_iadd (by decide +kernel), ?_⟩
  refine List.forall_mem_cons.2 ⟨s_sld (show decode code 457 = .ok (.iaload, 1) by decide +kernel), ?_⟩
  refine List.forall_mem_cons.2 ⟨s_aload_n (k := 0) (by decide +kernel) rfl, ?_⟩
  refine List.forall_mem_cons.2 ⟨s_iload (by decide +kernel), ?_⟩
  refine List.forall_mem_cons.2 ⟨s_iconst (k := 2) (by decide +kernel) (by decide +kernel), ?_⟩
  refine List.forall_mem_cons.2 ⟨s_iadd (by decide +kernel), ?_⟩
  refine List.forall_mem_cons.2 ⟨s_sld (show decode code 463 = .ok (.iaload, 1) by decide +kernel), ?_⟩
  refine List.forall_mem_cons.2 ⟨s_invokevirtual (idx := 77) (M := 142) (k := 2) (ci := 8) (C := q_n8) (T := q_T8) (N := 39) (ym := q_y142) (wm := q_w142) (by decide +kernel) rfl rfl rfl (x_gdV mw_1052 mw_1053 mw_1054 mw_675 mw_1051) rfl (by decide +kernel) (by decide), ?_⟩
  refine List.forall_mem_cons.2 ⟨s_icmp_eq (off := 56) (by decide +kernel) (by decide), ?_⟩
  refine List.forall_mem_cons.2 ⟨s_iconst (k := 0) (by decide +kernel) (by decide +kernel), ?_⟩
  refine List.forall_mem_cons.2 ⟨s_ireturn (ty := .boolean) (by decide +kernel) rfl, ?_⟩
  refine List.forall_mem_cons.2 ⟨s_aload_n (k := 1) (by decide +kernel) rfl, ?_⟩
  refine List.forall_mem_cons.2 ⟨s_invokevirtual (idx := 78) (M := 78) (k := 0) (ci := 0) (C := q_n0) (T := q_T0) (N := 10) (ym := q_y78) (wm := q_w78) (by decide +kernel) rfl rfl rfl (x_gdV mw_1056 mw_1057 mw_1058 mw_408 mw_1055) rfl (by decide +kernel) (by decide), ?_⟩
  refine List.forall_mem_cons.2 ⟨s_aload_n (k := 2) (by decide +kernel) rfl, ?_⟩
  refine List.forall_mem_cons.2 ⟨s_invokevirtual (idx := 81) (M := 143) (k := 0) (ci := 8) (C := q_n8) (T := q_T8) (N := 39) (ym := q_y143) (wm := q_w143) (by decide +kernel) rfl rfl rfl (x_gdV mw_1060 mw_1061 mw_1062 mw_675 mw_1059) rfl (by decide +kernel) (by decide), ?_⟩
  refine List.forall_mem_cons.2 ⟨s_icmp_eq (off := 43) (by decide +kernel) (by decide), ?_⟩
  refine List.forall_mem_cons.2 ⟨s_iconst (k := 0) (by decide +kernel) (by decide +kernel), ?_⟩
  refine List.forall_mem_cons.2 ⟨s_ireturn (ty := .boolean) (by decide +kernel) rfl, ?_⟩
  exact fun _ h => absurd h List.not_mem_nil
def q_kL_7 (b L : Nat) (xs : Nat → Int32) : List (Nat × xO) := [(485, x_lda 486 1), (486, x_lda 487 0), (487, x_ldi 489 4), (489, x_st (x_push 490 (.int (1)))), (490, x_st (x_bin 491 (fun a b => a + b))), (491, x_st (x_sld 492 b L xs)), (492, x_cv 495 79 2 0), (495, x_lda 496 2), (496, x_lda 497 0), (497, x_ldi 499 4), (499, x_st (x_push 500 (.int (1)))), (500, x_st (x_bin 501 (fun a b => a + b))), (501, x_st (x_sld 502 b L xs)), (502, x_cv 505 144 2 8), (505, x_st (x_iceq 523 508)), (508, x_st (x_push 509 (.int (0)))), (509, x_ri (.boolean)), (510, x_lda 511 1), (511, x_cv 514 80 1 0), (514, x_lda 515 2), (515, x_cv 518 145 1 8), (518, x_st (x_iceq 523 521)), (521, x_st (x_push 522 (.int (0)))), (522, x_ri (.boolean)), (523, x_iinc 526 4 (7)), (526, x_st (x_goto 23)), (529, x_st (x_push 530 (.int (1)))), (530, x_ri (.boolean))]
set_option maxRecDepth 100000 in
set_option maxHeartbeats 4000000 in
theorem q_sL_7 (l : Launch) (s0 : State) (b L : Nat) (xs : Nat → Int32) : ∀ q ∈ q_kL_7 b L xs, x_Sim (x_K s0) (some (b, L, xs)) l x code 7 ret q_wL q.1 q.2 := by
  unfold q_kL_7
  refine List.forall_mem_cons.2 ⟨s_aload_n (k := 1) (by decide +kernel) rfl, ?_⟩
  refine List.forall_mem_cons.2 ⟨s_aload_n (k := 0) (by decide +kernel) rfl, ?_⟩
  refine List.forall_mem_cons.2 ⟨s_iload (by decide +kernel), ?_⟩
  refine List.forall_mem_cons.2 ⟨s_iconst (k := 1) (by decide +kernel) (by decide +kernel), ?_⟩
  refine List.forall_mem_cons.2 ⟨s_iadd (by decide +kernel), ?_⟩
  refine List.forall_mem_cons.2 ⟨s_sld (show decode code 491 = .ok (.iaload, 1) by decide +kernel), ?_⟩
  refine List.forall_mem_cons.2 ⟨s_invokevirtual (idx := 82) (M := 79) (k := 1) (ci := 0) (C := q_n0) (T := q_T0) (N := 10) (ym := q_y79) (wm := q_w79) (by decide +kernel) rfl rfl rfl (x_gdV mw_1064 mw_1065 mw_1066 mw_408 mw_1063) rfl (by decide +kernel) (by decide), ?_⟩
  refine List.forall_mem_cons.2 ⟨s_aload_n (k := 2) (by decide +kernel) rfl, ?_⟩
  refine List.forall_mem_cons.2 ⟨s_aload_n (k := 0) (by decide +kernel) rfl, ?_⟩
  refine List.forall_mem_cons.2 ⟨s_iload (by decide +kernel), ?_⟩
  refine List.forall_mem_cons.2 ⟨s_iconst (k := 1) (by decide +kernel) (by decide +kernel), ?_⟩
  refine List.forall_mem_cons.2 ⟨s_iadd (by decide +kernel), ?_⟩
  refine List.forall_mem_cons.2 ⟨s_sld (show decode code 501 = .ok (.iaload, 1) by decide +kernel), ?_⟩
  refine List.forall_mem_cons.2 ⟨s_invokevirtual (idx := 86) (M := 144) (k := 1) (ci := 8) (C := q_n8) (T := q_T8) (N := 39) (ym := q_y144) (wm := q_w144) (by decide +kernel) rfl rfl rfl (x_gdV mw_1068 mw_1069 mw_1070 mw_675 mw_1067) rfl (by decide +kernel) (by decide), ?_⟩
  refine List.forall_mem_cons.2 ⟨s_icmp_eq (off := 18) (by decide +kernel) (by decide), ?_⟩
  refine List.forall_mem_cons.2 ⟨s_iconst (k := 0) (by decide +kernel) (by decide +kernel), ?_⟩
  refine List.forall_mem_cons.2 ⟨s_ireturn (ty := .boolean) (by decide +kernel) rfl, ?_⟩
  refine List.forall_mem_cons.2 ⟨s_aload_n (k := 1) (by decide +kernel) rfl, ?_⟩
  refine List.forall_mem_cons.2 ⟨s_invokevirtual (idx := 87) (M := 80) (k := 0) (ci := 0) (C := q_n0) (T := q_T0) (N := 10) (ym := q_y80) (wm := q_w80) (by decide +kernel) rfl rfl rfl (x_gdV mw_1072 mw_1073 mw_1074 mw_408 mw_1071) rfl (by decide +kernel) (by decide), ?_⟩
  refine List.forall_mem_cons.2 ⟨s_aload_n (k := 2) (by decide +kernel) rfl, ?_⟩
  refine List.forall_mem_cons.2 ⟨s_invokevirtual (idx := 90) (M := 145) (k := 0) (ci := 8) (C := q_n8) (T := q_T8) (N := 39) (ym := q_y145) (wm := q_w145) (by decide +kernel) rfl rfl rfl (x_gdV mw_1076 mw_1077 mw_1078 mw_675 mw_1075) rfl (by decide +kernel) (by decide), ?_⟩
  refine List.forall_mem_cons.2 ⟨s_icmp_eq (off := 5) (by decide +kernel) (by decide), ?_⟩
  refine List.forall_mem_cons.2 ⟨s_iconst (k := 0) (by decide +kernel) (by decide +kernel), ?_⟩
  refine List.forall_mem_cons.2 ⟨s_ireturn (ty := .boolean) (by decide +kernel) rfl, ?_⟩
  refine List.forall_mem_cons.2 ⟨s_iinc (k := 7) (by decide +kernel) (by decide +kernel) (by decide), ?_⟩
  refine List.forall_mem_cons.2 ⟨s_goto (off := -503) (by decide +kernel) (by decide), ?_⟩
  refine List.forall_mem_cons.2 ⟨s_iconst (k := 1) (by decide +kernel) (by decide +kernel), ?_⟩
  refine List.forall_mem_cons.2 ⟨s_ireturn (ty := .boolean) (by decide +kernel) rfl, ?_⟩
  exact fun _ h => absurd h List.not_mem_nil
def q_kL (b L : Nat) (xs : Nat → Int32) : List (Nat × xO) := q_kL_0 b L xs ++ q_kL_1 b L xs ++ q_kL_2 b L xs ++ q_kL_3 b L xs ++ q_kL_4 b L xs ++ q_kL_5 b L xs ++ q_kL_6 b L xs ++ q_kL_7 b L xs
theorem q_sL (l : Launch) (s0 : State) (b L : Nat) (xs : Nat → Int32) : ∀ q ∈ q_kL b L xs, x_Sim (x_K s0) (some (b, L, xs)) l x code 7 ret q_wL q.1 q.2 := by
  intro q hq
  simp only [q_kL, List.mem_append] at hq
  rcases hq with ((((((h0 | h1) | h2) | h3) | h4) | h5) | h6) | h7
  · exact q_sL_0 l s0 b L xs q h0
  · exact q_sL_1 l s0 b L xs q h1
  · exact q_sL_2 l s0 b L xs q h2
  · exact q_sL_3 l s0 b L xs q h3
  · exact q_sL_4 l s0 b L xs q h4
  · exact q_sL_5 l s0 b L xs q h5
  · exact q_sL_6 l s0 b L xs q h6
  · exact q_sL_7 l s0 b L xs q h7
