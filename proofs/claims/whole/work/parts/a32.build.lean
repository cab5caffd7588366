/-! a sign is put at a text's end -/
theorem f159_0 : x_fetch q_k159 0 = x_lda 1 0 := rfl
theorem t159_0 (C : xF) (s n : Nat) (z : xS) : x_to q_k159 C s (n + 1) 0 z = x_nx q_k159 C s n ((x_lda 1 0) C z) := x_to_at f159_0 C s n z
theorem f159_1 : x_fetch q_k159 1 = x_ldi 2 1 := rfl
theorem t159_1 (C : xF) (s n : Nat) (z : xS) : x_to q_k159 C s (n + 1) 1 z = x_nx q_k159 C s n ((x_ldi 2 1) C z) := x_to_at f159_1 C s n z
theorem f159_2 : x_fetch q_k159 2 = x_cv 5 160 2 14 := rfl
theorem t159_2 (C : xF) (s n : Nat) (z : xS) : x_to q_k159 C s (n + 1) 2 z = x_nx q_k159 C s n ((x_cv 5 160 2 14) C z) := x_to_at f159_2 C s n z
theorem f159_5 : x_fetch q_k159 5 = x_st (x_pop 6) := rfl
theorem t159_5 (C : xF) (s n : Nat) (z : xS) : x_to q_k159 C s (n + 1) 5 z = x_nx q_k159 C s n ((x_st (x_pop 6)) C z) := x_to_at f159_5 C s n z
theorem f159_6 : x_fetch q_k159 6 = x_lda 7 0 := rfl
theorem t159_6 (C : xF) (s n : Nat) (z : xS) : x_to q_k159 C s (n + 1) 6 z = x_nx q_k159 C s n ((x_lda 7 0) C z) := x_to_at f159_6 C s n z
theorem f159_7 : x_fetch q_k159 7 = x_ra := rfl
theorem t159_7 (C : xF) (s n : Nat) (z : xS) : x_to q_k159 C s (n + 1) 7 z = x_nx q_k159 C s n ((x_ra) C z) := x_to_at f159_7 C s n z
theorem f160_0 : x_fetch q_k160 0 = x_lda 1 0 := rfl
theorem t160_0 (C : xF) (s n : Nat) (z : xS) : x_to q_k160 C s (n + 1) 0 z = x_nx q_k160 C s n ((x_lda 1 0) C z) := x_to_at f160_0 C s n z
theorem f160_1 : x_fetch q_k160 1 = x_lda 2 0 := rfl
theorem t160_1 (C : xF) (s n : Nat) (z : xS) : x_to q_k160 C s (n + 1) 1 z = x_nx q_k160 C s n ((x_lda 2 0) C z) := x_to_at f160_1 C s n z
theorem f160_2 : x_fetch q_k160 2 = x_gf 5 14 3 := rfl
theorem t160_2 (C : xF) (s n : Nat) (z : xS) : x_to q_k160 C s (n + 1) 2 z = x_nx q_k160 C s n ((x_gf 5 14 3) C z) := x_to_at f160_2 C s n z
theorem f160_5 : x_fetch q_k160 5 = x_st (x_push 6 (.int (1))) := rfl
theorem t160_5 (C : xF) (s n : Nat) (z : xS) : x_to q_k160 C s (n + 1) 5 z = x_nx q_k160 C s n ((x_st (x_push 6 (.int (1)))) C z) := x_to_at f160_5 C s n z
theorem f160_6 : x_fetch q_k160 6 = x_st (x_bin 7 (fun a b => a + b)) := rfl
theorem t160_6 (C : xF) (s n : Nat) (z : xS) : x_to q_k160 C s (n + 1) 6 z = x_nx q_k160 C s n ((x_st (x_bin 7 (fun a b => a + b))) C z) := x_to_at f160_6 C s n z
theorem f160_7 : x_fetch q_k160 7 = x_cv 10 161 2 14 := rfl
theorem t160_7 (C : xF) (s n : Nat) (z : xS) : x_to q_k160 C s (n + 1) 7 z = x_nx q_k160 C s n ((x_cv 10 161 2 14) C z) := x_to_at f160_7 C s n z
theorem f160_10 : x_fetch q_k160 10 = x_lda 11 0 := rfl
theorem t160_10 (C : xF) (s n : Nat) (z : xS) : x_to q_k160 C s (n + 1) 10 z = x_nx q_k160 C s n ((x_lda 11 0) C z) := x_to_at f160_10 C s n z
theorem f160_11 : x_fetch q_k160 11 = x_cv 14 165 1 14 := rfl
theorem t160_11 (C : xF) (s n : Nat) (z : xS) : x_to q_k160 C s (n + 1) 11 z = x_nx q_k160 C s n ((x_cv 14 165 1 14) C z) := x_to_at f160_11 C s n z
theorem f160_14 : x_fetch q_k160 14 = x_st (x_ifeq 45 17) := rfl
theorem t160_14 (C : xF) (s n : Nat) (z : xS) : x_to q_k160 C s (n + 1) 14 z = x_nx q_k160 C s n ((x_st (x_ifeq 45 17)) C z) := x_to_at f160_14 C s n z
theorem f160_17 : x_fetch q_k160 17 = x_ldi 18 1 := rfl
theorem t160_17 (C : xF) (s n : Nat) (z : xS) : x_to q_k160 C s (n + 1) 17 z = x_nx q_k160 C s n ((x_ldi 18 1) C z) := x_to_at f160_17 C s n z
theorem f160_18 : x_fetch q_k160 18 = x_cl_ 21 166 1 := rfl
theorem t160_18 (C : xF) (s n : Nat) (z : xS) : x_to q_k160 C s (n + 1) 18 z = x_nx q_k160 C s n ((x_cl_ 21 166 1) C z) := x_to_at f160_18 C s n z
theorem f160_21 : x_fetch q_k160 21 = x_st (x_ifeq 45 24) := rfl
theorem t160_21 (C : xF) (s n : Nat) (z : xS) : x_to q_k160 C s (n + 1) 21 z = x_nx q_k160 C s n ((x_st (x_ifeq 45 24)) C z) := x_to_at f160_21 C s n z
theorem f160_24 : x_fetch q_k160 24 = x_lda 25 0 := rfl
theorem t160_24 (C : xF) (s n : Nat) (z : xS) : x_to q_k160 C s (n + 1) 24 z = x_nx q_k160 C s n ((x_lda 25 0) C z) := x_to_at f160_24 C s n z
theorem f160_25 : x_fetch q_k160 25 = x_gf 28 14 0 := rfl
theorem t160_25 (C : xF) (s n : Nat) (z : xS) : x_to q_k160 C s (n + 1) 25 z = x_nx q_k160 C s n ((x_gf 28 14 0) C z) := x_to_at f160_25 C s n z
theorem f160_28 : x_fetch q_k160 28 = x_lda 29 0 := rfl
theorem t160_28 (C : xF) (s n : Nat) (z : xS) : x_to q_k160 C s (n + 1) 28 z = x_nx q_k160 C s n ((x_lda 29 0) C z) := x_to_at f160_28 C s n z
theorem f160_29 : x_fetch q_k160 29 = x_st (x_dup 30) := rfl
theorem t160_29 (C : xF) (s n : Nat) (z : xS) : x_to q_k160 C s (n + 1) 29 z = x_nx q_k160 C s n ((x_st (x_dup 30)) C z) := x_to_at f160_29 C s n z
theorem f160_30 : x_fetch q_k160 30 = x_gf 33 14 3 := rfl
theorem t160_30 (C : xF) (s n : Nat) (z : xS) : x_to q_k160 C s (n + 1) 30 z = x_nx q_k160 C s n ((x_gf 33 14 3) C z) := x_to_at f160_30 C s n z
theorem f160_33 : x_fetch q_k160 33 = x_st (x_dupx1 34) := rfl
theorem t160_33 (C : xF) (s n : Nat) (z : xS) : x_to q_k160 C s (n + 1) 33 z = x_nx q_k160 C s n ((x_st (x_dupx1 34)) C z) := x_to_at f160_33 C s n z
theorem f160_34 : x_fetch q_k160 34 = x_st (x_push 35 (.int (1))) := rfl
theorem t160_34 (C : xF) (s n : Nat) (z : xS) : x_to q_k160 C s (n + 1) 34 z = x_nx q_k160 C s n ((x_st (x_push 35 (.int (1)))) C z) := x_to_at f160_34 C s n z
theorem f160_35 : x_fetch q_k160 35 = x_st (x_bin 36 (fun a b => a + b)) := rfl
theorem t160_35 (C : xF) (s n : Nat) (z : xS) : x_to q_k160 C s (n + 1) 35 z = x_nx q_k160 C s n ((x_st (x_bin 36 (fun a b => a + b))) C z) := x_to_at f160_35 C s n z
theorem f160_36 : x_fetch q_k160 36 = x_pf 39 14 3 (.int) := rfl
theorem t160_36 (C : xF) (s n : Nat) (z : xS) : x_to q_k160 C s (n + 1) 36 z = x_nx q_k160 C s n ((x_pf 39 14 3 (.int)) C z) := x_to_at f160_36 C s n z
theorem f160_39 : x_fetch q_k160 39 = x_ldi 40 1 := rfl
theorem t160_39 (C : xF) (s n : Nat) (z : xS) : x_to q_k160 C s (n + 1) 39 z = x_nx q_k160 C s n ((x_ldi 40 1) C z) := x_to_at f160_39 C s n z
theorem f160_40 : x_fetch q_k160 40 = x_st (x_un 41 (fun a => .int a.toInt8.toInt32)) := rfl
theorem t160_40 (C : xF) (s n : Nat) (z : xS) : x_to q_k160 C s (n + 1) 40 z = x_nx q_k160 C s n ((x_st (x_un 41 (fun a => .int a.toInt8.toInt32))) C z) := x_to_at f160_40 C s n z
theorem f160_41 : x_fetch q_k160 41 = x_ast 42 5 (fun x => vp_nar .byte x) := rfl
theorem t160_41 (C : xF) (s n : Nat) (z : xS) : x_to q_k160 C s (n + 1) 41 z = x_nx q_k160 C s n ((x_ast 42 5 (fun x => vp_nar .byte x)) C z) := x_to_at f160_41 C s n z
theorem f160_42 : x_fetch q_k160 42 = x_st (x_goto 75) := rfl
theorem t160_42 (C : xF) (s n : Nat) (z : xS) : x_to q_k160 C s (n + 1) 42 z = x_nx q_k160 C s n ((x_st (x_goto 75)) C z) := x_to_at f160_42 C s n z
theorem f160_45 : x_fetch q_k160 45 = x_lda 46 0 := rfl
theorem t160_45 (C : xF) (s n : Nat) (z : xS) : x_to q_k160 C s (n + 1) 45 z = x_nx q_k160 C s n ((x_lda 46 0) C z) := x_to_at f160_45 C s n z
theorem f160_46 : x_fetch q_k160 46 = x_cv 49 165 1 14 := rfl
theorem t160_46 (C : xF) (s n : Nat) (z : xS) : x_to q_k160 C s (n + 1) 46 z = x_nx q_k160 C s n ((x_cv 49 165 1 14) C z) := x_to_at f160_46 C s n z
theorem f160_49 : x_fetch q_k160 49 = x_st (x_ifeq 56 52) := rfl
theorem t160_49 (C : xF) (s n : Nat) (z : xS) : x_to q_k160 C s (n + 1) 49 z = x_nx q_k160 C s n ((x_st (x_ifeq 56 52)) C z) := x_to_at f160_49 C s n z
theorem f160_52 : x_fetch q_k160 52 = x_lda 53 0 := rfl
theorem t160_52 (C : xF) (s n : Nat) (z : xS) : x_to q_k160 C s (n + 1) 52 z = x_nx q_k160 C s n ((x_lda 53 0) C z) := x_to_at f160_52 C s n z
theorem f160_53 : x_fetch q_k160 53 = fun _ _ => none := rfl
theorem t160_53 (C : xF) (s n : Nat) (z : xS) : x_to q_k160 C s (n + 1) 53 z = x_nx q_k160 C s n ((fun _ _ => none) C z) := x_to_at f160_53 C s n z
theorem f160_56 : x_fetch q_k160 56 = x_lda 57 0 := rfl
theorem t160_56 (C : xF) (s n : Nat) (z : xS) : x_to q_k160 C s (n + 1) 56 z = x_nx q_k160 C s n ((x_lda 57 0) C z) := x_to_at f160_56 C s n z
theorem f160_57 : x_fetch q_k160 57 = x_gf 60 14 0 := rfl
theorem t160_57 (C : xF) (s n : Nat) (z : xS) : x_to q_k160 C s (n + 1) 57 z = x_nx q_k160 C s n ((x_gf 60 14 0) C z) := x_to_at f160_57 C s n z
theorem f160_60 : x_fetch q_k160 60 = x_lda 61 0 := rfl
theorem t160_60 (C : xF) (s n : Nat) (z : xS) : x_to q_k160 C s (n + 1) 60 z = x_nx q_k160 C s n ((x_lda 61 0) C z) := x_to_at f160_60 C s n z
theorem f160_61 : x_fetch q_k160 61 = x_st (x_dup 62) := rfl
theorem t160_61 (C : xF) (s n : Nat) (z : xS) : x_to q_k160 C s (n + 1) 61 z = x_nx q_k160 C s n ((x_st (x_dup 62)) C z) := x_to_at f160_61 C s n z
theorem f160_62 : x_fetch q_k160 62 = x_gf 65 14 3 := rfl
theorem t160_62 (C : xF) (s n : Nat) (z : xS) : x_to q_k160 C s (n + 1) 62 z = x_nx q_k160 C s n ((x_gf 65 14 3) C z) := x_to_at f160_62 C s n z
theorem f160_65 : x_fetch q_k160 65 = x_st (x_dupx1 66) := rfl
theorem t160_65 (C : xF) (s n : Nat) (z : xS) : x_to q_k160 C s (n + 1) 65 z = x_nx q_k160 C s n ((x_st (x_dupx1 66)) C z) := x_to_at f160_65 C s n z
theorem f160_66 : x_fetch q_k160 66 = x_st (x_push 67 (.int (1))) := rfl
theorem t160_66 (C : xF) (s n : Nat) (z : xS) : x_to q_k160 C s (n + 1) 66 z = x_nx q_k160 C s n ((x_st (x_push 67 (.int (1)))) C z) := x_to_at f160_66 C s n z
theorem f160_67 : x_fetch q_k160 67 = x_st (x_bin 68 (fun a b => a + b)) := rfl
theorem t160_67 (C : xF) (s n : Nat) (z : xS) : x_to q_k160 C s (n + 1) 67 z = x_nx q_k160 C s n ((x_st (x_bin 68 (fun a b => a + b))) C z) := x_to_at f160_67 C s n z
theorem f160_68 : x_fetch q_k160 68 = x_pf 71 14 3 (.int) := rfl
theorem t160_68 (C : xF) (s n : Nat) (z : xS) : x_to q_k160 C s (n + 1) 68 z = x_nx q_k160 C s n ((x_pf 71 14 3 (.int)) C z) := x_to_at f160_68 C s n z
theorem f160_71 : x_fetch q_k160 71 = x_ldi 72 1 := rfl
theorem t160_71 (C : xF) (s n : Nat) (z : xS) : x_to q_k160 C s (n + 1) 71 z = x_nx q_k160 C s n ((x_ldi 72 1) C z) := x_to_at f160_71 C s n z
theorem f160_72 : x_fetch q_k160 72 = fun _ _ => none := rfl
theorem t160_72 (C : xF) (s n : Nat) (z : xS) : x_to q_k160 C s (n + 1) 72 z = x_nx q_k160 C s n ((fun _ _ => none) C z) := x_to_at f160_72 C s n z
theorem f160_75 : x_fetch q_k160 75 = x_lda 76 0 := rfl
theorem t160_75 (C : xF) (s n : Nat) (z : xS) : x_to q_k160 C s (n + 1) 75 z = x_nx q_k160 C s n ((x_lda 76 0) C z) := x_to_at f160_75 C s n z
theorem f160_76 : x_fetch q_k160 76 = x_ra := rfl
theorem t160_76 (C : xF) (s n : Nat) (z : xS) : x_to q_k160 C s (n + 1) 76 z = x_nx q_k160 C s n ((x_ra) C z) := x_to_at f160_76 C s n z
theorem f161_0 : x_fetch q_k161 0 = x_lda 1 0 := rfl
theorem t161_0 (C : xF) (s n : Nat) (z : xS) : x_to q_k161 C s (n + 1) 0 z = x_nx q_k161 C s n ((x_lda 1 0) C z) := x_to_at f161_0 C s n z
theorem f161_1 : x_fetch q_k161 1 = x_gf 4 14 0 := rfl
theorem t161_1 (C : xF) (s n : Nat) (z : xS) : x_to q_k161 C s (n + 1) 1 z = x_nx q_k161 C s n ((x_gf 4 14 0) C z) := x_to_at f161_1 C s n z
theorem f161_4 : x_fetch q_k161 4 = x_aln 5 6 := rfl
theorem t161_4 (C : xF) (s n : Nat) (z : xS) : x_to q_k161 C s (n + 1) 4 z = x_nx q_k161 C s n ((x_aln 5 6) C z) := x_to_at f161_4 C s n z
theorem f161_5 : x_fetch q_k161 5 = x_lda 6 0 := rfl
theorem t161_5 (C : xF) (s n : Nat) (z : xS) : x_to q_k161 C s (n + 1) 5 z = x_nx q_k161 C s n ((x_lda 6 0) C z) := x_to_at f161_5 C s n z
theorem f161_6 : x_fetch q_k161 6 = x_gf 9 14 1 := rfl
theorem t161_6 (C : xF) (s n : Nat) (z : xS) : x_to q_k161 C s (n + 1) 6 z = x_nx q_k161 C s n ((x_gf 9 14 1) C z) := x_to_at f161_6 C s n z
theorem f161_9 : x_fetch q_k161 9 = x_st (x_bin 10 (fun a b => a >>> (b &&& 31))) := rfl
theorem t161_9 (C : xF) (s n : Nat) (z : xS) : x_to q_k161 C s (n + 1) 9 z = x_nx q_k161 C s n ((x_st (x_bin 10 (fun a b => a >>> (b &&& 31)))) C z) := x_to_at f161_9 C s n z
theorem f161_10 : x_fetch q_k161 10 = x_sti 11 2 := rfl
theorem t161_10 (C : xF) (s n : Nat) (z : xS) : x_to q_k161 C s (n + 1) 10 z = x_nx q_k161 C s n ((x_sti 11 2) C z) := x_to_at f161_10 C s n z
theorem f161_11 : x_fetch q_k161 11 = x_ldi 12 1 := rfl
theorem t161_11 (C : xF) (s n : Nat) (z : xS) : x_to q_k161 C s (n + 1) 11 z = x_nx q_k161 C s n ((x_ldi 12 1) C z) := x_to_at f161_11 C s n z
theorem f161_12 : x_fetch q_k161 12 = x_ldi 13 2 := rfl
theorem t161_12 (C : xF) (s n : Nat) (z : xS) : x_to q_k161 C s (n + 1) 12 z = x_nx q_k161 C s n ((x_ldi 13 2) C z) := x_to_at f161_12 C s n z
theorem f161_13 : x_fetch q_k161 13 = x_st (x_bin 14 (fun a b => a - b)) := rfl
theorem t161_13 (C : xF) (s n : Nat) (z : xS) : x_to q_k161 C s (n + 1) 13 z = x_nx q_k161 C s n ((x_st (x_bin 14 (fun a b => a - b))) C z) := x_to_at f161_13 C s n z
theorem f161_14 : x_fetch q_k161 14 = x_st (x_ifle 38 17) := rfl
theorem t161_14 (C : xF) (s n : Nat) (z : xS) : x_to q_k161 C s (n + 1) 14 z = x_nx q_k161 C s n ((x_st (x_ifle 38 17)) C z) := x_to_at f161_14 C s n z
theorem f161_17 : x_fetch q_k161 17 = x_lda 18 0 := rfl
theorem t161_17 (C : xF) (s n : Nat) (z : xS) : x_to q_k161 C s (n + 1) 17 z = x_nx q_k161 C s n ((x_lda 18 0) C z) := x_to_at f161_17 C s n z
theorem f161_18 : x_fetch q_k161 18 = x_lda 19 0 := rfl
theorem t161_18 (C : xF) (s n : Nat) (z : xS) : x_to q_k161 C s (n + 1) 18 z = x_nx q_k161 C s n ((x_lda 19 0) C z) := x_to_at f161_18 C s n z
theorem f161_19 : x_fetch q_k161 19 = x_gf 22 14 0 := rfl
theorem t161_19 (C : xF) (s n : Nat) (z : xS) : x_to q_k161 C s (n + 1) 19 z = x_nx q_k161 C s n ((x_gf 22 14 0) C z) := x_to_at f161_19 C s n z
theorem f161_22 : x_fetch q_k161 22 = x_lda 23 0 := rfl
theorem t161_22 (C : xF) (s n : Nat) (z : xS) : x_to q_k161 C s (n + 1) 22 z = x_nx q_k161 C s n ((x_lda 23 0) C z) := x_to_at f161_22 C s n z
theorem f161_23 : x_fetch q_k161 23 = x_ldi 24 1 := rfl
theorem t161_23 (C : xF) (s n : Nat) (z : xS) : x_to q_k161 C s (n + 1) 23 z = x_nx q_k161 C s n ((x_ldi 24 1) C z) := x_to_at f161_23 C s n z
theorem f161_24 : x_fetch q_k161 24 = x_cv 27 162 2 14 := rfl
theorem t161_24 (C : xF) (s n : Nat) (z : xS) : x_to q_k161 C s (n + 1) 24 z = x_nx q_k161 C s n ((x_cv 27 162 2 14) C z) := x_to_at f161_24 C s n z
theorem f161_27 : x_fetch q_k161 27 = x_lda 28 0 := rfl
theorem t161_27 (C : xF) (s n : Nat) (z : xS) : x_to q_k161 C s (n + 1) 27 z = x_nx q_k161 C s n ((x_lda 28 0) C z) := x_to_at f161_27 C s n z
theorem f161_28 : x_fetch q_k161 28 = x_gf 31 14 1 := rfl
theorem t161_28 (C : xF) (s n : Nat) (z : xS) : x_to q_k161 C s (n + 1) 28 z = x_nx q_k161 C s n ((x_gf 31 14 1) C z) := x_to_at f161_28 C s n z
theorem f161_31 : x_fetch q_k161 31 = x_st (x_bin 32 (fun a b => a <<< (b &&& 31))) := rfl
theorem t161_31 (C : xF) (s n : Nat) (z : xS) : x_to q_k161 C s (n + 1) 31 z = x_nx q_k161 C s n ((x_st (x_bin 32 (fun a b => a <<< (b &&& 31)))) C z) := x_to_at f161_31 C s n z
theorem f161_32 : x_fetch q_k161 32 = x_cl_ 35 164 2 := rfl
theorem t161_32 (C : xF) (s n : Nat) (z : xS) : x_to q_k161 C s (n + 1) 32 z = x_nx q_k161 C s n ((x_cl_ 35 164 2) C z) := x_to_at f161_32 C s n z
theorem f161_35 : x_fetch q_k161 35 = x_pf 38 14 0 (.array .byte) := rfl
theorem t161_35 (C : xF) (s n : Nat) (z : xS) : x_to q_k161 C s (n + 1) 35 z = x_nx q_k161 C s n ((x_pf 38 14 0 (.array .byte)) C z) := x_to_at f161_35 C s n z
theorem f161_38 : x_fetch q_k161 38 = x_rv := rfl
theorem t161_38 (C : xF) (s n : Nat) (z : xS) : x_to q_k161 C s (n + 1) 38 z = x_nx q_k161 C s n ((x_rv) C z) := x_to_at f161_38 C s n z
theorem f162_0 : x_fetch q_k162 0 = x_lda 1 0 := rfl
theorem t162_0 (C : xF) (s n : Nat) (z : xS) : x_to q_k162 C s (n + 1) 0 z = x_nx q_k162 C s n ((x_lda 1 0) C z) := x_to_at f162_0 C s n z
theorem f162_1 : x_fetch q_k162 1 = x_gf 4 14 0 := rfl
theorem t162_1 (C : xF) (s n : Nat) (z : xS) : x_to q_k162 C s (n + 1) 1 z = x_nx q_k162 C s n ((x_gf 4 14 0) C z) := x_to_at f162_1 C s n z
theorem f162_4 : x_fetch q_k162 4 = x_aln 5 6 := rfl
theorem t162_4 (C : xF) (s n : Nat) (z : xS) : x_to q_k162 C s (n + 1) 4 z = x_nx q_k162 C s n ((x_aln 5 6) C z) := x_to_at f162_4 C s n z
theorem f162_5 : x_fetch q_k162 5 = x_sti 6 2 := rfl
theorem t162_5 (C : xF) (s n : Nat) (z : xS) : x_to q_k162 C s (n + 1) 5 z = x_nx q_k162 C s n ((x_sti 6 2) C z) := x_to_at f162_5 C s n z
theorem f162_6 : x_fetch q_k162 6 = x_ldi 7 1 := rfl
theorem t162_6 (C : xF) (s n : Nat) (z : xS) : x_to q_k162 C s (n + 1) 6 z = x_nx q_k162 C s n ((x_ldi 7 1) C z) := x_to_at f162_6 C s n z
theorem f162_7 : x_fetch q_k162 7 = x_lda 8 0 := rfl
theorem t162_7 (C : xF) (s n : Nat) (z : xS) : x_to q_k162 C s (n + 1) 7 z = x_nx q_k162 C s n ((x_lda 8 0) C z) := x_to_at f162_7 C s n z
theorem f162_8 : x_fetch q_k162 8 = x_gf 11 14 1 := rfl
theorem t162_8 (C : xF) (s n : Nat) (z : xS) : x_to q_k162 C s (n + 1) 8 z = x_nx q_k162 C s n ((x_gf 11 14 1) C z) := x_to_at f162_8 C s n z
theorem f162_11 : x_fetch q_k162 11 = x_st (x_bin 12 (fun a b => a <<< (b &&& 31))) := rfl
theorem t162_11 (C : xF) (s n : Nat) (z : xS) : x_to q_k162 C s (n + 1) 11 z = x_nx q_k162 C s n ((x_st (x_bin 12 (fun a b => a <<< (b &&& 31)))) C z) := x_to_at f162_11 C s n z
theorem f162_12 : x_fetch q_k162 12 = x_sti 13 3 := rfl
theorem t162_12 (C : xF) (s n : Nat) (z : xS) : x_to q_k162 C s (n + 1) 12 z = x_nx q_k162 C s n ((x_sti 13 3) C z) := x_to_at f162_12 C s n z
theorem f162_13 : x_fetch q_k162 13 = x_ldi 14 3 := rfl
theorem t162_13 (C : xF) (s n : Nat) (z : xS) : x_to q_k162 C s (n + 1) 13 z = x_nx q_k162 C s n ((x_ldi 14 3) C z) := x_to_at f162_13 C s n z
theorem f162_14 : x_fetch q_k162 14 = x_ldi 15 2 := rfl
theorem t162_14 (C : xF) (s n : Nat) (z : xS) : x_to q_k162 C s (n + 1) 14 z = x_nx q_k162 C s n ((x_ldi 15 2) C z) := x_to_at f162_14 C s n z
theorem f162_15 : x_fetch q_k162 15 = x_st (x_bin 16 (fun a b => a - b)) := rfl
theorem t162_15 (C : xF) (s n : Nat) (z : xS) : x_to q_k162 C s (n + 1) 15 z = x_nx q_k162 C s n ((x_st (x_bin 16 (fun a b => a - b))) C z) := x_to_at f162_15 C s n z
theorem f162_16 : x_fetch q_k162 16 = x_sti 18 4 := rfl
theorem t162_16 (C : xF) (s n : Nat) (z : xS) : x_to q_k162 C s (n + 1) 16 z = x_nx q_k162 C s n ((x_sti 18 4) C z) := x_to_at f162_16 C s n z
theorem f162_18 : x_fetch q_k162 18 = x_ldi 19 2 := rfl
theorem t162_18 (C : xF) (s n : Nat) (z : xS) : x_to q_k162 C s (n + 1) 18 z = x_nx q_k162 C s n ((x_ldi 19 2) C z) := x_to_at f162_18 C s n z
theorem f162_19 : x_fetch q_k162 19 = x_ldi 21 4 := rfl
theorem t162_19 (C : xF) (s n : Nat) (z : xS) : x_to q_k162 C s (n + 1) 19 z = x_nx q_k162 C s n ((x_ldi 21 4) C z) := x_to_at f162_19 C s n z
theorem f162_21 : x_fetch q_k162 21 = x_ldi 22 2 := rfl
theorem t162_21 (C : xF) (s n : Nat) (z : xS) : x_to q_k162 C s (n + 1) 21 z = x_nx q_k162 C s n ((x_ldi 22 2) C z) := x_to_at f162_21 C s n z
theorem f162_22 : x_fetch q_k162 22 = x_st (x_push 23 (.int (2))) := rfl
theorem t162_22 (C : xF) (s n : Nat) (z : xS) : x_to q_k162 C s (n + 1) 22 z = x_nx q_k162 C s n ((x_st (x_push 23 (.int (2)))) C z) := x_to_at f162_22 C s n z
theorem f162_23 : x_fetch q_k162 23 = x_lda 24 0 := rfl
theorem t162_23 (C : xF) (s n : Nat) (z : xS) : x_to q_k162 C s (n + 1) 23 z = x_nx q_k162 C s n ((x_lda 24 0) C z) := x_to_at f162_23 C s n z
theorem f162_24 : x_fetch q_k162 24 = x_gf 27 14 1 := rfl
theorem t162_24 (C : xF) (s n : Nat) (z : xS) : x_to q_k162 C s (n + 1) 24 z = x_nx q_k162 C s n ((x_gf 27 14 1) C z) := x_to_at f162_24 C s n z
theorem f162_27 : x_fetch q_k162 27 = x_st (x_bin 28 (fun a b => a <<< (b &&& 31))) := rfl
theorem t162_27 (C : xF) (s n : Nat) (z : xS) : x_to q_k162 C s (n + 1) 27 z = x_nx q_k162 C s n ((x_st (x_bin 28 (fun a b => a <<< (b &&& 31)))) C z) := x_to_at f162_27 C s n z
theorem f162_28 : x_fetch q_k162 28 = x_st (x_bin 29 (fun a b => a + b)) := rfl
theorem t162_28 (C : xF) (s n : Nat) (z : xS) : x_to q_k162 C s (n + 1) 28 z = x_nx q_k162 C s n ((x_st (x_bin 29 (fun a b => a + b))) C z) := x_to_at f162_28 C s n z
theorem f162_29 : x_fetch q_k162 29 = x_cl_ 32 163 3 := rfl
theorem t162_29 (C : xF) (s n : Nat) (z : xS) : x_to q_k162 C s (n + 1) 29 z = x_nx q_k162 C s n ((x_cl_ 32 163 3) C z) := x_to_at f162_29 C s n z
theorem f162_32 : x_fetch q_k162 32 = x_sti 34 5 := rfl
theorem t162_32 (C : xF) (s n : Nat) (z : xS) : x_to q_k162 C s (n + 1) 32 z = x_nx q_k162 C s n ((x_sti 34 5) C z) := x_to_at f162_32 C s n z
theorem f162_34 : x_fetch q_k162 34 = x_ldi 36 5 := rfl
theorem t162_34 (C : xF) (s n : Nat) (z : xS) : x_to q_k162 C s (n + 1) 34 z = x_nx q_k162 C s n ((x_ldi 36 5) C z) := x_to_at f162_34 C s n z
theorem f162_36 : x_fetch q_k162 36 = x_st (x_push 38 (.int (2147483647))) := rfl
theorem t162_36 (C : xF) (s n : Nat) (z : xS) : x_to q_k162 C s (n + 1) 36 z = x_nx q_k162 C s n ((x_st (x_push 38 (.int (2147483647)))) C z) := x_to_at f162_36 C s n z
theorem f162_38 : x_fetch q_k162 38 = x_st (x_icne 51 41) := rfl
theorem t162_38 (C : xF) (s n : Nat) (z : xS) : x_to q_k162 C s (n + 1) 38 z = x_nx q_k162 C s n ((x_st (x_icne 51 41)) C z) := x_to_at f162_38 C s n z
theorem f162_41 : x_fetch q_k162 41 = fun _ _ => none := rfl
theorem t162_41 (C : xF) (s n : Nat) (z : xS) : x_to q_k162 C s (n + 1) 41 z = x_nx q_k162 C s n ((fun _ _ => none) C z) := x_to_at f162_41 C s n z
theorem f162_44 : x_fetch q_k162 44 = x_st (x_dup 45) := rfl
theorem t162_44 (C : xF) (s n : Nat) (z : xS) : x_to q_k162 C s (n + 1) 44 z = x_nx q_k162 C s n ((x_st (x_dup 45)) C z) := x_to_at f162_44 C s n z
theorem f162_45 : x_fetch q_k162 45 = fun _ _ => none := rfl
theorem t162_45 (C : xF) (s n : Nat) (z : xS) : x_to q_k162 C s (n + 1) 45 z = x_nx q_k162 C s n ((fun _ _ => none) C z) := x_to_at f162_45 C s n z
theorem f162_47 : x_fetch q_k162 47 = fun _ _ => none := rfl
theorem t162_47 (C : xF) (s n : Nat) (z : xS) : x_to q_k162 C s (n + 1) 47 z = x_nx q_k162 C s n ((fun _ _ => none) C z) := x_to_at f162_47 C s n z
theorem f162_50 : x_fetch q_k162 50 = fun _ _ => none := rfl
theorem t162_50 (C : xF) (s n : Nat) (z : xS) : x_to q_k162 C s (n + 1) 50 z = x_nx q_k162 C s n ((fun _ _ => none) C z) := x_to_at f162_50 C s n z
theorem f162_51 : x_fetch q_k162 51 = x_ldi 53 5 := rfl
theorem t162_51 (C : xF) (s n : Nat) (z : xS) : x_to q_k162 C s (n + 1) 51 z = x_nx q_k162 C s n ((x_ldi 53 5) C z) := x_to_at f162_51 C s n z
theorem f162_53 : x_fetch q_k162 53 = x_lda 54 0 := rfl
theorem t162_53 (C : xF) (s n : Nat) (z : xS) : x_to q_k162 C s (n + 1) 53 z = x_nx q_k162 C s n ((x_lda 54 0) C z) := x_to_at f162_53 C s n z
theorem f162_54 : x_fetch q_k162 54 = x_gf 57 14 1 := rfl
theorem t162_54 (C : xF) (s n : Nat) (z : xS) : x_to q_k162 C s (n + 1) 54 z = x_nx q_k162 C s n ((x_gf 57 14 1) C z) := x_to_at f162_54 C s n z
theorem f162_57 : x_fetch q_k162 57 = x_st (x_bin 58 (fun a b => a >>> (b &&& 31))) := rfl
theorem t162_57 (C : xF) (s n : Nat) (z : xS) : x_to q_k162 C s (n + 1) 57 z = x_nx q_k162 C s n ((x_st (x_bin 58 (fun a b => a >>> (b &&& 31)))) C z) := x_to_at f162_57 C s n z
theorem f162_58 : x_fetch q_k162 58 = x_ri (.int) := rfl
theorem t162_58 (C : xF) (s n : Nat) (z : xS) : x_to q_k162 C s (n + 1) 58 z = x_nx q_k162 C s n ((x_ri (.int)) C z) := x_to_at f162_58 C s n z
theorem f163_0 : x_fetch q_k163 0 = x_ldi 1 0 := rfl
theorem t163_0 (C : xF) (s n : Nat) (z : xS) : x_to q_k163 C s (n + 1) 0 z = x_nx q_k163 C s n ((x_ldi 1 0) C z) := x_to_at f163_0 C s n z
theorem f163_1 : x_fetch q_k163 1 = x_ldi 2 1 := rfl
theorem t163_1 (C : xF) (s n : Nat) (z : xS) : x_to q_k163 C s (n + 1) 1 z = x_nx q_k163 C s n ((x_ldi 2 1) C z) := x_to_at f163_1 C s n z
theorem f163_2 : x_fetch q_k163 2 = x_ldi 3 2 := rfl
theorem t163_2 (C : xF) (s n : Nat) (z : xS) : x_to q_k163 C s (n + 1) 2 z = x_nx q_k163 C s n ((x_ldi 3 2) C z) := x_to_at f163_2 C s n z
theorem f163_3 : x_fetch q_k163 3 = x_st (x_mm 6 (fun a b => if a < b then b else a)) := rfl
theorem t163_3 (C : xF) (s n : Nat) (z : xS) : x_to q_k163 C s (n + 1) 3 z = x_nx q_k163 C s n ((x_st (x_mm 6 (fun a b => if a < b then b else a))) C z) := x_to_at f163_3 C s n z
theorem f163_6 : x_fetch q_k163 6 = x_st (x_bin 7 (fun a b => a + b)) := rfl
theorem t163_6 (C : xF) (s n : Nat) (z : xS) : x_to q_k163 C s (n + 1) 6 z = x_nx q_k163 C s n ((x_st (x_bin 7 (fun a b => a + b))) C z) := x_to_at f163_6 C s n z
theorem f163_7 : x_fetch q_k163 7 = x_sti 8 3 := rfl
theorem t163_7 (C : xF) (s n : Nat) (z : xS) : x_to q_k163 C s (n + 1) 7 z = x_nx q_k163 C s n ((x_sti 8 3) C z) := x_to_at f163_7 C s n z
theorem f163_8 : x_fetch q_k163 8 = x_st (x_push 9 (.int (0))) := rfl
theorem t163_8 (C : xF) (s n : Nat) (z : xS) : x_to q_k163 C s (n + 1) 8 z = x_nx q_k163 C s n ((x_st (x_push 9 (.int (0)))) C z) := x_to_at f163_8 C s n z
theorem f163_9 : x_fetch q_k163 9 = x_ldi 10 3 := rfl
theorem t163_9 (C : xF) (s n : Nat) (z : xS) : x_to q_k163 C s (n + 1) 9 z = x_nx q_k163 C s n ((x_ldi 10 3) C z) := x_to_at f163_9 C s n z
theorem f163_10 : x_fetch q_k163 10 = x_st (x_icge 21 13) := rfl
theorem t163_10 (C : xF) (s n : Nat) (z : xS) : x_to q_k163 C s (n + 1) 10 z = x_nx q_k163 C s n ((x_st (x_icge 21 13)) C z) := x_to_at f163_10 C s n z
theorem f163_13 : x_fetch q_k163 13 = x_ldi 14 3 := rfl
theorem t163_13 (C : xF) (s n : Nat) (z : xS) : x_to q_k163 C s (n + 1) 13 z = x_nx q_k163 C s n ((x_ldi 14 3) C z) := x_to_at f163_13 C s n z
theorem f163_14 : x_fetch q_k163 14 = x_st (x_push 16 (.int (2147483639))) := rfl
theorem t163_14 (C : xF) (s n : Nat) (z : xS) : x_to q_k163 C s (n + 1) 14 z = x_nx q_k163 C s n ((x_st (x_push 16 (.int (2147483639)))) C z) := x_to_at f163_14 C s n z
theorem f163_16 : x_fetch q_k163 16 = x_st (x_icgt 21 19) := rfl
theorem t163_16 (C : xF) (s n : Nat) (z : xS) : x_to q_k163 C s (n + 1) 16 z = x_nx q_k163 C s n ((x_st (x_icgt 21 19)) C z) := x_to_at f163_16 C s n z
theorem f163_19 : x_fetch q_k163 19 = x_ldi 20 3 := rfl
theorem t163_19 (C : xF) (s n : Nat) (z : xS) : x_to q_k163 C s (n + 1) 19 z = x_nx q_k163 C s n ((x_ldi 20 3) C z) := x_to_at f163_19 C s n z
theorem f163_20 : x_fetch q_k163 20 = x_ri (.int) := rfl
theorem t163_20 (C : xF) (s n : Nat) (z : xS) : x_to q_k163 C s (n + 1) 20 z = x_nx q_k163 C s n ((x_ri (.int)) C z) := x_to_at f163_20 C s n z
theorem f163_21 : x_fetch q_k163 21 = x_ldi 22 0 := rfl
theorem t163_21 (C : xF) (s n : Nat) (z : xS) : x_to q_k163 C s (n + 1) 21 z = x_nx q_k163 C s n ((x_ldi 22 0) C z) := x_to_at f163_21 C s n z
theorem f163_22 : x_fetch q_k163 22 = x_ldi 23 1 := rfl
theorem t163_22 (C : xF) (s n : Nat) (z : xS) : x_to q_k163 C s (n + 1) 22 z = x_nx q_k163 C s n ((x_ldi 23 1) C z) := x_to_at f163_22 C s n z
theorem f163_23 : x_fetch q_k163 23 = fun _ _ => none := rfl
theorem t163_23 (C : xF) (s n : Nat) (z : xS) : x_to q_k163 C s (n + 1) 23 z = x_nx q_k163 C s n ((fun _ _ => none) C z) := x_to_at f163_23 C s n z
theorem f163_26 : x_fetch q_k163 26 = x_ri (.int) := rfl
theorem t163_26 (C : xF) (s n : Nat) (z : xS) : x_to q_k163 C s (n + 1) 26 z = x_nx q_k163 C s n ((x_ri (.int)) C z) := x_to_at f163_26 C s n z
theorem f164_0 : x_fetch q_k164 0 = x_ldi 1 1 := rfl
theorem t164_0 (C : xF) (s n : Nat) (z : xS) : x_to q_k164 C s (n + 1) 0 z = x_nx q_k164 C s n ((x_ldi 1 1) C z) := x_to_at f164_0 C s n z
theorem f164_1 : x_fetch q_k164 1 = x_lda 2 0 := rfl
theorem t164_1 (C : xF) (s n : Nat) (z : xS) : x_to q_k164 C s (n + 1) 1 z = x_nx q_k164 C s n ((x_lda 2 0) C z) := x_to_at f164_1 C s n z
theorem f164_2 : x_fetch q_k164 2 = x_aln 3 6 := rfl
theorem t164_2 (C : xF) (s n : Nat) (z : xS) : x_to q_k164 C s (n + 1) 2 z = x_nx q_k164 C s n ((x_aln 3 6) C z) := x_to_at f164_2 C s n z
theorem f164_3 : x_fetch q_k164 3 = x_st (x_icne 14 6) := rfl
theorem t164_3 (C : xF) (s n : Nat) (z : xS) : x_to q_k164 C s (n + 1) 3 z = x_nx q_k164 C s n ((x_st (x_icne 14 6)) C z) := x_to_at f164_3 C s n z
theorem f164_6 : x_fetch q_k164 6 = x_lda 7 0 := rfl
theorem t164_6 (C : xF) (s n : Nat) (z : xS) : x_to q_k164 C s (n + 1) 6 z = x_nx q_k164 C s n ((x_lda 7 0) C z) := x_to_at f164_6 C s n z
theorem f164_7 : x_fetch q_k164 7 = x_cln 10 5 (fun v => fits .byte (.int v)) := rfl
theorem t164_7 (C : xF) (s n : Nat) (z : xS) : x_to q_k164 C s (n + 1) 7 z = x_nx q_k164 C s n ((x_cln 10 5 (fun v => fits .byte (.int v))) C z) := x_to_at f164_7 C s n z
theorem f164_10 : x_fetch q_k164 10 = x_cst 13 5 := rfl
theorem t164_10 (C : xF) (s n : Nat) (z : xS) : x_to q_k164 C s (n + 1) 10 z = x_nx q_k164 C s n ((x_cst 13 5) C z) := x_to_at f164_10 C s n z
theorem f164_13 : x_fetch q_k164 13 = x_ra := rfl
theorem t164_13 (C : xF) (s n : Nat) (z : xS) : x_to q_k164 C s (n + 1) 13 z = x_nx q_k164 C s n ((x_ra) C z) := x_to_at f164_13 C s n z
theorem f164_14 : x_fetch q_k164 14 = x_ldi 15 1 := rfl
theorem t164_14 (C : xF) (s n : Nat) (z : xS) : x_to q_k164 C s (n + 1) 14 z = x_nx q_k164 C s n ((x_ldi 15 1) C z) := x_to_at f164_14 C s n z
theorem f164_15 : x_fetch q_k164 15 = x_na 17 5 := rfl
theorem t164_15 (C : xF) (s n : Nat) (z : xS) : x_to q_k164 C s (n + 1) 15 z = x_nx q_k164 C s n ((x_na 17 5) C z) := x_to_at f164_15 C s n z
theorem f164_17 : x_fetch q_k164 17 = x_sta 18 2 := rfl
theorem t164_17 (C : xF) (s n : Nat) (z : xS) : x_to q_k164 C s (n + 1) 17 z = x_nx q_k164 C s n ((x_sta 18 2) C z) := x_to_at f164_17 C s n z
theorem f164_18 : x_fetch q_k164 18 = x_lda 19 0 := rfl
theorem t164_18 (C : xF) (s n : Nat) (z : xS) : x_to q_k164 C s (n + 1) 18 z = x_nx q_k164 C s n ((x_lda 19 0) C z) := x_to_at f164_18 C s n z
theorem f164_19 : x_fetch q_k164 19 = x_st (x_push 20 (.int (0))) := rfl
theorem t164_19 (C : xF) (s n : Nat) (z : xS) : x_to q_k164 C s (n + 1) 19 z = x_nx q_k164 C s n ((x_st (x_push 20 (.int (0)))) C z) := x_to_at f164_19 C s n z
theorem f164_20 : x_fetch q_k164 20 = x_lda 21 2 := rfl
theorem t164_20 (C : xF) (s n : Nat) (z : xS) : x_to q_k164 C s (n + 1) 20 z = x_nx q_k164 C s n ((x_lda 21 2) C z) := x_to_at f164_20 C s n z
theorem f164_21 : x_fetch q_k164 21 = x_st (x_push 22 (.int (0))) := rfl
theorem t164_21 (C : xF) (s n : Nat) (z : xS) : x_to q_k164 C s (n + 1) 21 z = x_nx q_k164 C s n ((x_st (x_push 22 (.int (0)))) C z) := x_to_at f164_21 C s n z
theorem f164_22 : x_fetch q_k164 22 = x_lda 23 0 := rfl
theorem t164_22 (C : xF) (s n : Nat) (z : xS) : x_to q_k164 C s (n + 1) 22 z = x_nx q_k164 C s n ((x_lda 23 0) C z) := x_to_at f164_22 C s n z
theorem f164_23 : x_fetch q_k164 23 = x_aln 24 6 := rfl
theorem t164_23 (C : xF) (s n : Nat) (z : xS) : x_to q_k164 C s (n + 1) 23 z = x_nx q_k164 C s n ((x_aln 24 6) C z) := x_to_at f164_23 C s n z
theorem f164_24 : x_fetch q_k164 24 = x_ldi 25 1 := rfl
theorem t164_24 (C : xF) (s n : Nat) (z : xS) : x_to q_k164 C s (n + 1) 24 z = x_nx q_k164 C s n ((x_ldi 25 1) C z) := x_to_at f164_24 C s n z
theorem f164_25 : x_fetch q_k164 25 = x_st (x_mm 28 (fun a b => if b < a then b else a)) := rfl
theorem t164_25 (C : xF) (s n : Nat) (z : xS) : x_to q_k164 C s (n + 1) 25 z = x_nx q_k164 C s n ((x_st (x_mm 28 (fun a b => if b < a then b else a))) C z) := x_to_at f164_25 C s n z
theorem f164_28 : x_fetch q_k164 28 = x_acq 31 5 (fun v => fits .byte (.int v)) := rfl
theorem t164_28 (C : xF) (s n : Nat) (z : xS) : x_to q_k164 C s (n + 1) 28 z = x_nx q_k164 C s n ((x_acq 31 5 (fun v => fits .byte (.int v))) C z) := x_to_at f164_28 C s n z
theorem f164_31 : x_fetch q_k164 31 = x_lda 32 2 := rfl
theorem t164_31 (C : xF) (s n : Nat) (z : xS) : x_to q_k164 C s (n + 1) 31 z = x_nx q_k164 C s n ((x_lda 32 2) C z) := x_to_at f164_31 C s n z
theorem f164_32 : x_fetch q_k164 32 = x_ra := rfl
theorem t164_32 (C : xF) (s n : Nat) (z : xS) : x_to q_k164 C s (n + 1) 32 z = x_nx q_k164 C s n ((x_ra) C z) := x_to_at f164_32 C s n z
theorem f165_0 : x_fetch q_k165 0 = x_st (x_push 3 (.int (1))) := rfl
theorem t165_0 (C : xF) (s n : Nat) (z : xS) : x_to q_k165 C s (n + 1) 0 z = x_nx q_k165 C s n ((x_st (x_push 3 (.int (1)))) C z) := x_to_at f165_0 C s n z
theorem f165_3 : x_fetch q_k165 3 = x_st (x_ifeq 17 6) := rfl
theorem t165_3 (C : xF) (s n : Nat) (z : xS) : x_to q_k165 C s (n + 1) 3 z = x_nx q_k165 C s n ((x_st (x_ifeq 17 6)) C z) := x_to_at f165_3 C s n z
theorem f165_6 : x_fetch q_k165 6 = x_lda 7 0 := rfl
theorem t165_6 (C : xF) (s n : Nat) (z : xS) : x_to q_k165 C s (n + 1) 6 z = x_nx q_k165 C s n ((x_lda 7 0) C z) := x_to_at f165_6 C s n z
theorem f165_7 : x_fetch q_k165 7 = x_gf 10 14 1 := rfl
theorem t165_7 (C : xF) (s n : Nat) (z : xS) : x_to q_k165 C s (n + 1) 7 z = x_nx q_k165 C s n ((x_gf 10 14 1) C z) := x_to_at f165_7 C s n z
theorem f165_10 : x_fetch q_k165 10 = x_st (x_ifne 17 13) := rfl
theorem t165_10 (C : xF) (s n : Nat) (z : xS) : x_to q_k165 C s (n + 1) 10 z = x_nx q_k165 C s n ((x_st (x_ifne 17 13)) C z) := x_to_at f165_10 C s n z
theorem f165_13 : x_fetch q_k165 13 = x_st (x_push 14 (.int (1))) := rfl
theorem t165_13 (C : xF) (s n : Nat) (z : xS) : x_to q_k165 C s (n + 1) 13 z = x_nx q_k165 C s n ((x_st (x_push 14 (.int (1)))) C z) := x_to_at f165_13 C s n z
theorem f165_14 : x_fetch q_k165 14 = x_st (x_goto 18) := rfl
theorem t165_14 (C : xF) (s n : Nat) (z : xS) : x_to q_k165 C s (n + 1) 14 z = x_nx q_k165 C s n ((x_st (x_goto 18)) C z) := x_to_at f165_14 C s n z
theorem f165_17 : x_fetch q_k165 17 = x_st (x_push 18 (.int (0))) := rfl
theorem t165_17 (C : xF) (s n : Nat) (z : xS) : x_to q_k165 C s (n + 1) 17 z = x_nx q_k165 C s n ((x_st (x_push 18 (.int (0)))) C z) := x_to_at f165_17 C s n z
theorem f165_18 : x_fetch q_k165 18 = x_ri (.boolean) := rfl
theorem t165_18 (C : xF) (s n : Nat) (z : xS) : x_to q_k165 C s (n + 1) 18 z = x_nx q_k165 C s n ((x_ri (.boolean)) C z) := x_to_at f165_18 C s n z
theorem f166_0 : x_fetch q_k166 0 = x_ldi 1 0 := rfl
theorem t166_0 (C : xF) (s n : Nat) (z : xS) : x_to q_k166 C s (n + 1) 0 z = x_nx q_k166 C s n ((x_ldi 1 0) C z) := x_to_at f166_0 C s n z
theorem f166_1 : x_fetch q_k166 1 = x_st (x_push 4 (.int (255))) := rfl
theorem t166_1 (C : xF) (s n : Nat) (z : xS) : x_to q_k166 C s (n + 1) 1 z = x_nx q_k166 C s n ((x_st (x_push 4 (.int (255)))) C z) := x_to_at f166_1 C s n z
theorem f166_4 : x_fetch q_k166 4 = x_st (x_icgt 11 7) := rfl
theorem t166_4 (C : xF) (s n : Nat) (z : xS) : x_to q_k166 C s (n + 1) 4 z = x_nx q_k166 C s n ((x_st (x_icgt 11 7)) C z) := x_to_at f166_4 C s n z
theorem f166_7 : x_fetch q_k166 7 = x_st (x_push 8 (.int (1))) := rfl
theorem t166_7 (C : xF) (s n : Nat) (z : xS) : x_to q_k166 C s (n + 1) 7 z = x_nx q_k166 C s n ((x_st (x_push 8 (.int (1)))) C z) := x_to_at f166_7 C s n z
theorem f166_8 : x_fetch q_k166 8 = x_st (x_goto 12) := rfl
theorem t166_8 (C : xF) (s n : Nat) (z : xS) : x_to q_k166 C s (n + 1) 8 z = x_nx q_k166 C s n ((x_st (x_goto 12)) C z) := x_to_at f166_8 C s n z
theorem f166_11 : x_fetch q_k166 11 = x_st (x_push 12 (.int (0))) := rfl
theorem t166_11 (C : xF) (s n : Nat) (z : xS) : x_to q_k166 C s (n + 1) 11 z = x_nx q_k166 C s n ((x_st (x_push 12 (.int (0)))) C z) := x_to_at f166_11 C s n z
theorem f166_12 : x_fetch q_k166 12 = x_ri (.boolean) := rfl
theorem t166_12 (C : xF) (s n : Nat) (z : xS) : x_to q_k166 C s (n + 1) 12 z = x_nx q_k166 C s n ((x_ri (.boolean)) C z) := x_to_at f166_12 C s n z
theorem zl_16 : (16 : Int32) = iZ 16 := rfl
theorem zl_255 : (255 : Int32) = iZ 255 := rfl
theorem zl_2147483639 : (2147483639 : Int32) = iZ 2147483639 := rfl
theorem zl_2147483647 : (2147483647 : Int32) = iZ 2147483647 := rfl
set_option maxRecDepth 20000 in
theorem nar_by : ∀ n : Fin 128, vp_nar .byte ((iZ ((n : Nat) : Int)).toInt8.toInt32) = iZ ((n : Nat) : Int) := by decide
theorem nar_b {c : Int} (h0 : 0 ≤ c) (h1 : c < 128) : vp_nar .byte (iZ c).toInt8.toInt32 = iZ c := by
  have := nar_by ⟨c.toNat, by omega⟩
  rw [show (((⟨c.toNat, by omega⟩ : Fin 128) : Nat) : Int) = c by show ((c.toNat : Nat) : Int) = c; omega] at this
  exact this
section BV
variable {w : Nat → xC} {N sb v : Nat} {Bv : List Int} {n : Int}
theorem m165 (d : Nat) (hs : sb < N) (hw : w sb = bO v n) : Xc (d + 1) 165 [.ref (sb + 3)] (hp w N) (some (.int (iZ 1)), hp w N) := by
  refine Xc.of rfl (by simp [lg_sl, Value.category]) ?_ (x_le.rf)
  have hc : c1 (lv_args 0 [.ref (sb + 3)]) := by simp [c1, lv_args, Value.category]
  have l0 : x_lk (lv_args 0 [.ref (sb + 3)]) 0 = some (.ref (sb + 3)) := rfl
  generalize lv_args 0 [.ref (sb + 3)] = lv at hc l0
  refine Gx.fin 20 Cs.tt (fun X _ => ?_)
  simp (disch := first | (refine c1_id ?_; assumption) | (refine c1_st rfl ?_; repeat (first | assumption | refine c1_st rfl ?_)) | omega) [nx_l, nx_r, nx_n, x_st, x_push, x_bin, x_div, x_un, x_dup, x_pop, x_dup2, x_goto, x_ifeq, x_ifne, x_iflt, x_ifge, x_ifgt, x_ifle, x_iceq, x_icne, x_iclt, x_icge, x_icgt, x_icle, x_ifnull, x_ifnonnull, x_ldi, x_lda, x_sti, x_sta, x_iinc, x_gf, x_pf, x_ald, x_ast, x_aln, x_len, x_cl_, x_cv, x_cs, x_rc, x_r0, x_isT, x_oi, x_rv, x_ri, x_ra, Value.category, t165_0, t165_3, t165_6, t165_7, t165_10, t165_13, t165_14, t165_17, t165_18, lk_s, hp_get, hp_set, uH_at, uH_ne, uH_upd, uH_swap, iZ_add, iZ_sub, iZ_mul, iZ_neg, iZ_lt, iZ_le, iZ_eq, iZ_div, iZ_of, ix_Z, gZ_map, gZ_mapI, gZ_map', le_0, le_s, sZ_map, sZ_len, bZ_0, bZ_inj, bZ_t, bZ_f, nr_i, nr_0, nr_1, nr_b, ft_i, ft_b, ft_0, ft_1, zl_0, zl_1, l0, hw, bO, -List.filter_filter, -List.getElem?_map, -List.getD_eq_getElem?_getD]
theorem m166 (d : Nat) (w : Nat → xC) (N : Nat) (c : Int) (h0 : 0 ≤ c) (h1 : c < 128) : Xc (d + 1) 166 [.int (iZ c)] (hp w N) (some (.int (iZ 1)), hp w N) := by
  refine Xc.of rfl (by simp [lg_sl, Value.category]) ?_ (x_le.rf)
  have hc : c1 (lv_args 0 [.int (iZ c)]) := by simp [c1, lv_args, Value.category]
  have l0 : x_lk (lv_args 0 [.int (iZ c)]) 0 = some (.int (iZ c)) := rfl
  generalize lv_args 0 [.int (iZ c)] = lv at hc l0
  refine Gx.fin 20 Cs.tt (fun X _ => ?_)
  have b1 : ¬ 255 < c := by omega
  simp (disch := first | (refine c1_id ?_; assumption) | (refine c1_st rfl ?_; repeat (first | assumption | refine c1_st rfl ?_)) | omega) [nx_l, nx_r, nx_n, x_st, x_push, x_bin, x_div, x_un, x_dup, x_pop, x_dup2, x_goto, x_ifeq, x_ifne, x_iflt, x_ifge, x_ifgt, x_ifle, x_iceq, x_icne, x_iclt, x_icge, x_icgt, x_icle, x_ifnull, x_ifnonnull, x_ldi, x_lda, x_sti, x_sta, x_iinc, x_gf, x_pf, x_ald, x_ast, x_aln, x_len, x_cl_, x_cv, x_cs, x_rc, x_r0, x_isT, x_oi, x_rv, x_ri, x_ra, Value.category, t166_0, t166_1, t166_4, t166_7, t166_8, t166_11, t166_12, lk_s, hp_get, hp_set, uH_at, uH_ne, uH_upd, uH_swap, iZ_add, iZ_sub, iZ_mul, iZ_neg, iZ_lt, iZ_le, iZ_eq, iZ_div, iZ_of, ix_Z, gZ_map, gZ_mapI, gZ_map', le_0, le_s, sZ_map, sZ_len, bZ_0, bZ_inj, bZ_t, bZ_f, nr_i, nr_0, nr_1, nr_b, ft_i, ft_b, ft_0, ft_1, zl_0, zl_1, zl_255, l0, b1, -List.filter_filter, -List.getElem?_map, -List.getD_eq_getElem?_getD]
theorem m163 (d : Nat) (w : Nat → xC) (N : Nat) (a g p : Int) (a0 : 0 ≤ a) (a9 : a < 10000) (g0 : 0 ≤ g) (gp : g ≤ p) (p9 : p < 20000) (p0 : 0 < p) : Xc (d + 1) 163 [.int (iZ a), .int (iZ g), .int (iZ p)] (hp w N) (some (.int (iZ (a + p))), hp w N) := by
  refine Xc.of rfl (by simp [lg_sl, Value.category]) ?_ (x_le.rf)
  have hc : c1 (lv_args 0 [.int (iZ a), .int (iZ g), .int (iZ p)]) := by simp [c1, lv_args, Value.category]
  have l0 : x_lk (lv_args 0 [.int (iZ a), .int (iZ g), .int (iZ p)]) 0 = some (.int (iZ a)) := rfl
  have l1 : x_lk (lv_args 0 [.int (iZ a), .int (iZ g), .int (iZ p)]) 1 = some (.int (iZ g)) := rfl
  have l2 : x_lk (lv_args 0 [.int (iZ a), .int (iZ g), .int (iZ p)]) 2 = some (.int (iZ p)) := rfl
  generalize lv_args 0 [.int (iZ a), .int (iZ g), .int (iZ p)] = lv at hc l0 l1 l2
  refine Gx.fin 30 Cs.tt (fun X _ => ?_)
  have e1 : (if g < p then p else g) = p := by split <;> omega
  have e2 : (if g < p then iZ p else iZ g) = iZ p := by
    split
    · rfl
    · rw [show g = p by omega]
  have b1 : ¬ a + p ≤ 0 := by omega
  have b2 : ¬ 2147483639 < a + p := by omega
  simp (disch := first | (refine c1_id ?_; assumption) | (refine c1_st rfl ?_; repeat (first | assumption | refine c1_st rfl ?_)) | omega) [nx_l, nx_r, nx_n, x_st, x_push, x_bin, x_div, x_un, x_dup, x_pop, x_dup2, x_goto, x_ifeq, x_ifne, x_iflt, x_ifge, x_ifgt, x_ifle, x_iceq, x_icne, x_iclt, x_icge, x_icgt, x_icle, x_ifnull, x_ifnonnull, x_ldi, x_lda, x_sti, x_sta, x_iinc, x_gf, x_pf, x_ald, x_ast, x_aln, x_len, x_cl_, x_cv, x_cs, x_rc, x_r0, x_isT, x_oi, x_rv, x_ri, x_ra, Value.category, t163_0, t163_1, t163_2, t163_3, t163_6, t163_7, t163_8, t163_9, t163_10, t163_13, t163_14, t163_16, t163_19, t163_20, t163_21, t163_22, t163_23, t163_26, lk_s, hp_get, hp_set, uH_at, uH_ne, uH_upd, uH_swap, iZ_add, iZ_sub, iZ_mul, iZ_neg, iZ_lt, iZ_le, iZ_eq, iZ_div, iZ_of, ix_Z, gZ_map, gZ_mapI, gZ_map', le_0, le_s, sZ_map, sZ_len, bZ_0, bZ_inj, bZ_t, bZ_f, nr_i, nr_0, nr_1, nr_b, ft_i, ft_b, ft_0, ft_1, zl_0, zl_1, zl_2147483639, l0, l1, l2, e2, b1, b2, x_mm, -List.filter_filter, -List.getElem?_map, -List.getD_eq_getElem?_getD]
theorem m162 (d : Nat) (hs : sb < N) (hv : v < N) (hw : w sb = bO v n) (hb : w v = cI 5 Bv) (lb : Bv.length < 5000) : Xc (d + 2) 162 [.ref (sb + 3), .int (iZ ((Bv.length : Int) + 1))] (hp w N) (some (.int (iZ (2 * (Bv.length : Int) + 2))), hp w N) := by
  have X1 := m163 d w N (Bv.length : Int) 1 ((Bv.length : Int) + 2) (by omega) (by omega) (by omega) (by omega) (by omega) (by omega)
  obtain ⟨q, hq⟩ : ∃ q : Int, q = (Bv.length : Int) := ⟨_, rfl⟩
  have hq' : (Bv.length : Int) = q := hq.symm
  rw [hq'] at X1 ⊢
  have q0 : 0 ≤ q := by omega
  have q9 : q < 5000 := by omega
  rw [show q + (q + 2) = 2 * q + 2 by omega] at X1
  refine Xc.of rfl (by simp [lg_sl, Value.category]) ?_ (x_le.rf)
  have hc : c1 (lv_args 0 [.ref (sb + 3), .int (iZ (q + 1))]) := by simp [c1, lv_args, Value.category]
  have l0 : x_lk (lv_args 0 [.ref (sb + 3), .int (iZ (q + 1))]) 0 = some (.ref (sb + 3)) := rfl
  have l1 : x_lk (lv_args 0 [.ref (sb + 3), .int (iZ (q + 1))]) 1 = some (.int (iZ (q + 1))) := rfl
  generalize lv_args 0 [.ref (sb + 3), .int (iZ (q + 1))] = lv at hc l0 l1
  refine Gx.fin 60 X1 (fun X mm => ?_)
  have e1 : q + 1 - q = 1 := by omega
  have b1 : ¬ 2 * q + 2 = 2147483647 := by omega
  simp (disch := first | (refine c1_id ?_; assumption) | (refine c1_st rfl ?_; repeat (first | assumption | refine c1_st rfl ?_)) | omega) [nx_l, nx_r, nx_n, x_st, x_push, x_bin, x_div, x_un, x_dup, x_pop, x_dup2, x_goto, x_ifeq, x_ifne, x_iflt, x_ifge, x_ifgt, x_ifle, x_iceq, x_icne, x_iclt, x_icge, x_icgt, x_icle, x_ifnull, x_ifnonnull, x_ldi, x_lda, x_sti, x_sta, x_iinc, x_gf, x_pf, x_ald, x_ast, x_aln, x_len, x_cl_, x_cv, x_cs, x_rc, x_r0, x_isT, x_oi, x_rv, x_ri, x_ra, Value.category, t162_0, t162_1, t162_4, t162_5, t162_6, t162_7, t162_8, t162_11, t162_12, t162_13, t162_14, t162_15, t162_16, t162_18, t162_19, t162_21, t162_22, t162_23, t162_24, t162_27, t162_28, t162_29, t162_32, t162_34, t162_36, t162_38, t162_41, t162_44, t162_45, t162_47, t162_50, t162_51, t162_53, t162_54, t162_57, t162_58, lk_s, hp_get, hp_set, uH_at, uH_ne, uH_upd, uH_swap, iZ_add, iZ_sub, iZ_mul, iZ_neg, iZ_lt, iZ_le, iZ_eq, iZ_div, iZ_of, ix_Z, gZ_map, gZ_mapI, gZ_map', le_0, le_s, sZ_map, sZ_len, bZ_0, bZ_inj, bZ_t, bZ_f, nr_i, nr_0, nr_1, nr_b, ft_i, ft_b, ft_0, ft_1, zl_0, zl_1, zl_2, zl_2147483647, l0, l1, hw, hb, hq', mm, e1, b1, sh_r, sh_l, bO, -List.filter_filter, -List.getElem?_map, -List.getD_eq_getElem?_getD]
theorem m164 (d : Nat) (hv : v < N) (hb : w v = cI 5 Bv) (lb : Bv.length < 5000) (hB : ∀ x ∈ Bv, 0 ≤ x ∧ x < 128) : Xc (d + 1) 164 [.ref (v + 3), .int (iZ (2 * (Bv.length : Int) + 2))] (hp w N) (some (.ref (N + 3)), hp (uH w N (cI 5 (Bv ++ List.replicate (Bv.length + 2) 0))) (N + 1)) := by
  obtain ⟨q, hq⟩ : ∃ q : Int, q = (Bv.length : Int) := ⟨_, rfl⟩
  have hq' : (Bv.length : Int) = q := hq.symm
  rw [hq']
  have q0 : 0 ≤ q := by omega
  have q9 : q < 5000 := by omega
  refine Xc.of rfl (by simp [lg_sl, Value.category]) ?_ (hp_gr)
  have hc : c1 (lv_args 0 [.ref (v + 3), .int (iZ (2 * q + 2))]) := by simp [c1, lv_args, Value.category]
  have l0 : x_lk (lv_args 0 [.ref (v + 3), .int (iZ (2 * q + 2))]) 0 = some (.ref (v + 3)) := rfl
  have l1 : x_lk (lv_args 0 [.ref (v + 3), .int (iZ (2 * q + 2))]) 1 = some (.int (iZ (2 * q + 2))) := rfl
  generalize lv_args 0 [.ref (v + 3), .int (iZ (2 * q + 2))] = lv at hc l0 l1
  obtain ⟨kk, hkk⟩ : ∃ kk : Int, kk = 2 * q + 2 := ⟨_, rfl⟩
  rw [← hkk] at l1
  have A1 := fun K lv r => na_hp (w := w) (N := N) (n := 17) (t := 5) (k := kk) (by omega) (by omega) K lv r
  have A2 := fun K lv => acq_hp (w := uH w N (cI 5 (List.replicate kk.toNat 0))) (N := N + 1) (a := v) (b := N) (n := 31) (A := Bv) (B := List.replicate kk.toNat 0) (k := q) (by omega) (by omega) (by rw [uH_ne (by omega)]; exact hb) (uH_at _ _ _) hB q0 (by omega) (by simp; omega) (by omega) K lv
  rw [uH_upd] at A2
  have e1 : Bv.take q.toNat ++ (List.replicate kk.toNat (0 : Int)).drop q.toNat = Bv ++ List.replicate (Bv.length + 2) 0 := by
    rw [hq, Int.toNat_natCast, List.take_length, List.drop_replicate]
    congr 2
    omega
  rw [e1] at A2
  have wa' : uH w N (cI 5 (List.replicate kk.toNat 0)) v = cI 5 Bv := by rw [uH_ne (by omega)]; exact hb
  have k9 : kk < 20000 := by omega
  have k0 : 0 ≤ kk := by omega
  have kne : ¬ kk = q := by omega
  refine Gx.run 40 (pc' := 22) (z' := ((2, .ref (N + 3)) :: lv.filter (x_keep 2), [.int (iZ 0), .ref (N + 3), .int (iZ 0), .ref (v + 3)], hp (uH w N (cI 5 (List.replicate kk.toNat 0))) (N + 1))) Cs.tt (fun X _ => ?_) ?_
  · obtain ⟨w1, hw1⟩ : ∃ w1, w1 = uH w N (cI 5 (List.replicate kk.toNat 0)) := ⟨_, rfl⟩
    rw [← hw1] at A1
    rw [← hw1]
    simp (disch := first | (refine c1_id ?_; assumption) | (refine c1_st rfl ?_; repeat (first | assumption | refine c1_st rfl ?_)) | omega) [nx_l, nx_r, nx_n, x_st, x_push, x_bin, x_div, x_un, x_dup, x_pop, x_dup2, x_goto, x_ifeq, x_ifne, x_iflt, x_ifge, x_ifgt, x_ifle, x_iceq, x_icne, x_iclt, x_icge, x_icgt, x_icle, x_ifnull, x_ifnonnull, x_ldi, x_lda, x_sti, x_sta, x_iinc, x_gf, x_pf, x_ald, x_ast, x_aln, x_len, x_cl_, x_cv, x_cs, x_rc, x_r0, x_isT, x_oi, x_rv, x_ri, x_ra, Value.category, t164_0, t164_1, t164_2, t164_3, t164_6, t164_7, t164_10, t164_13, t164_14, t164_15, t164_17, t164_18, t164_19, t164_20, t164_21, t164_22, t164_23, t164_24, t164_25, t164_28, t164_31, t164_32, lk_s, hp_get, hp_set, uH_at, uH_ne, uH_upd, uH_swap, iZ_add, iZ_sub, iZ_mul, iZ_neg, iZ_lt, iZ_le, iZ_eq, iZ_div, iZ_of, ix_Z, gZ_map, gZ_mapI, gZ_map', le_0, le_s, sZ_map, sZ_len, bZ_0, bZ_inj, bZ_t, bZ_f, nr_i, nr_0, nr_1, nr_b, ft_i, ft_b, ft_0, ft_1, zl_0, zl_1, l0, l1, hb, A1, hq', kne, -List.filter_filter, -List.getElem?_map, -List.getD_eq_getElem?_getD]
  · have C2 := c1_st (i := 2) (v := .ref (N + 3)) rfl hc
    have j0 : x_lk ((2, .ref (N + 3)) :: lv.filter (x_keep 2)) 0 = some (.ref (v + 3)) := by rw [lk_s hc]; exact l0
    have j1 : x_lk ((2, .ref (N + 3)) :: lv.filter (x_keep 2)) 1 = some (.int (iZ kk)) := by rw [lk_s hc]; exact l1
    have j2 : x_lk ((2, .ref (N + 3)) :: lv.filter (x_keep 2)) 2 = some (.ref (N + 3)) := by rw [lk_s hc]; rfl
    generalize ((2, .ref (N + 3)) :: lv.filter (x_keep 2) : xL) = lv2 at C2 j0 j1 j2
    obtain ⟨w1, hw1⟩ : ∃ w1, w1 = uH w N (cI 5 (List.replicate kk.toNat 0)) := ⟨_, rfl⟩
    rw [← hw1] at A2 wa' ⊢
    refine Gx.fin 40 Cs.tt (fun X _ => ?_)
    have mn : ¬ kk < q := by omega
    simp (disch := first | (refine c1_id ?_; assumption) | (refine c1_st rfl ?_; repeat (first | assumption | refine c1_st rfl ?_)) | omega) [nx_l, nx_r, nx_n, x_st, x_push, x_bin, x_div, x_un, x_dup, x_pop, x_dup2, x_goto, x_ifeq, x_ifne, x_iflt, x_ifge, x_ifgt, x_ifle, x_iceq, x_icne, x_iclt, x_icge, x_icgt, x_icle, x_ifnull, x_ifnonnull, x_ldi, x_lda, x_sti, x_sta, x_iinc, x_gf, x_pf, x_ald, x_ast, x_aln, x_len, x_cl_, x_cv, x_cs, x_rc, x_r0, x_isT, x_oi, x_rv, x_ri, x_ra, Value.category, t164_0, t164_1, t164_2, t164_3, t164_6, t164_7, t164_10, t164_13, t164_14, t164_15, t164_17, t164_18, t164_19, t164_20, t164_21, t164_22, t164_23, t164_24, t164_25, t164_28, t164_31, t164_32, lk_s, hp_get, hp_set, uH_at, uH_ne, uH_upd, uH_swap, iZ_add, iZ_sub, iZ_mul, iZ_neg, iZ_lt, iZ_le, iZ_eq, iZ_div, iZ_of, ix_Z, gZ_map, gZ_mapI, gZ_map', le_0, le_s, sZ_map, sZ_len, bZ_0, bZ_inj, bZ_t, bZ_f, nr_i, nr_0, nr_1, nr_b, ft_i, ft_b, ft_0, ft_1, zl_0, zl_1, j0, j1, j2, wa', A2, hq', mn, x_mm, -List.filter_filter, -List.getElem?_map, -List.getD_eq_getElem?_getD]
/-- there is room for one more -/
theorem m161n (d : Nat) (hs : sb < N) (hv : v < N) (hw : w sb = bO v n) (hb : w v = cI 5 Bv) (lb : Bv.length < 5000) (k : Int) (k0 : 0 ≤ k) (hk : k ≤ Bv.length) : Xc (d + 1) 161 [.ref (sb + 3), .int (iZ k)] (hp w N) (none, hp w N) := by
  obtain ⟨q, hq⟩ : ∃ q : Int, q = (Bv.length : Int) := ⟨_, rfl⟩
  have hq' : (Bv.length : Int) = q := hq.symm
  refine Xc.of rfl (by simp [lg_sl, Value.category]) ?_ (x_le.rf)
  have hc : c1 (lv_args 0 [.ref (sb + 3), .int (iZ k)]) := by simp [c1, lv_args, Value.category]
  have l0 : x_lk (lv_args 0 [.ref (sb + 3), .int (iZ k)]) 0 = some (.ref (sb + 3)) := rfl
  have l1 : x_lk (lv_args 0 [.ref (sb + 3), .int (iZ k)]) 1 = some (.int (iZ k)) := rfl
  generalize lv_args 0 [.ref (sb + 3), .int (iZ k)] = lv at hc l0 l1
  refine Gx.fin 30 Cs.tt (fun X _ => ?_)
  have b1 : k - q ≤ 0 := by omega
  have q0 : 0 ≤ q := by omega
  have q9 : q < 5000 := by omega
  simp (disch := first | (refine c1_id ?_; assumption) | (refine c1_st rfl ?_; repeat (first | assumption | refine c1_st rfl ?_)) | omega) [nx_l, nx_r, nx_n, x_st, x_push, x_bin, x_div, x_un, x_dup, x_pop, x_dup2, x_goto, x_ifeq, x_ifne, x_iflt, x_ifge, x_ifgt, x_ifle, x_iceq, x_icne, x_iclt, x_icge, x_icgt, x_icle, x_ifnull, x_ifnonnull, x_ldi, x_lda, x_sti, x_sta, x_iinc, x_gf, x_pf, x_ald, x_ast, x_aln, x_len, x_cl_, x_cv, x_cs, x_rc, x_r0, x_isT, x_oi, x_rv, x_ri, x_ra, Value.category, t161_0, t161_1, t161_4, t161_5, t161_6, t161_9, t161_10, t161_11, t161_12, t161_13, t161_14, t161_17, t161_18, t161_19, t161_22, t161_23, t161_24, t161_27, t161_28, t161_31, t161_32, t161_35, t161_38, lk_s, hp_get, hp_set, uH_at, uH_ne, uH_upd, uH_swap, iZ_add, iZ_sub, iZ_mul, iZ_neg, iZ_lt, iZ_le, iZ_eq, iZ_div, iZ_of, ix_Z, gZ_map, gZ_mapI, gZ_map', le_0, le_s, sZ_map, sZ_len, bZ_0, bZ_inj, bZ_t, bZ_f, nr_i, nr_0, nr_1, nr_b, ft_i, ft_b, ft_0, ft_1, zl_0, zl_1, l0, l1, hw, hb, hq', b1, sh_r, bO, -List.filter_filter, -List.getElem?_map, -List.getD_eq_getElem?_getD]
theorem m161y (d : Nat) (hs : sb < N) (hv : v < N) (hsv : sb ≠ v) (hw : w sb = bO v n) (hb : w v = cI 5 Bv) (lb : Bv.length < 5000) (hB : ∀ x ∈ Bv, 0 ≤ x ∧ x < 128) : Xc (d + 3) 161 [.ref (sb + 3), .int (iZ ((Bv.length : Int) + 1))] (hp w N) (none, hp (uH (uH w sb (bO N n)) N (cI 5 (Bv ++ List.replicate (Bv.length + 2) 0))) (N + 1)) := by
  have X1 := m162 d hs hv hw hb lb
  have X2 := m164 (d + 1) hv hb lb hB
  obtain ⟨q, hq⟩ : ∃ q : Int, q = (Bv.length : Int) := ⟨_, rfl⟩
  have hq' : (Bv.length : Int) = q := hq.symm
  rw [hq'] at X1 X2 ⊢
  obtain ⟨Bn, hBn⟩ : ∃ Bn, Bn = Bv ++ List.replicate (Bv.length + 2) 0 := ⟨_, rfl⟩
  rw [← hBn] at X2 ⊢
  have hle : x_le (hp w N) (hp (uH (uH w sb (bO N n)) N (cI 5 Bn)) (N + 1)) := hp_le (by omega) (fun j hj => by
    rw [uH_ne (by omega)]
    by_cases e : j = sb
    · rw [e, uH_at, hw]
      simp [x_c1]
    · rw [uH_ne e]
      exact Nat.le_refl _)
  refine Xc.of rfl (by simp [lg_sl, Value.category]) ?_ (hle)
  have hc : c1 (lv_args 0 [.ref (sb + 3), .int (iZ (q + 1))]) := by simp [c1, lv_args, Value.category]
  have l0 : x_lk (lv_args 0 [.ref (sb + 3), .int (iZ (q + 1))]) 0 = some (.ref (sb + 3)) := rfl
  have l1 : x_lk (lv_args 0 [.ref (sb + 3), .int (iZ (q + 1))]) 1 = some (.int (iZ (q + 1))) := rfl
  generalize lv_args 0 [.ref (sb + 3), .int (iZ (q + 1))] = lv at hc l0 l1
  refine Gx.fin 60 (X1.and X2) (fun X mm => ?_)
  obtain ⟨mm1, mm2⟩ := mm
  have q0 : 0 ≤ q := by omega
  have q9 : q < 5000 := by omega
  have b1 : ¬ q + 1 - q ≤ 0 := by omega
  have sN : sb ≠ N := by omega
  rw [← uH_swap hs]
  simp (disch := first | (refine c1_id ?_; assumption) | (refine c1_st rfl ?_; repeat (first | assumption | refine c1_st rfl ?_)) | omega) [nx_l, nx_r, nx_n, x_st, x_push, x_bin, x_div, x_un, x_dup, x_pop, x_dup2, x_goto, x_ifeq, x_ifne, x_iflt, x_ifge, x_ifgt, x_ifle, x_iceq, x_icne, x_iclt, x_icge, x_icgt, x_icle, x_ifnull, x_ifnonnull, x_ldi, x_lda, x_sti, x_sta, x_iinc, x_gf, x_pf, x_ald, x_ast, x_aln, x_len, x_cl_, x_cv, x_cs, x_rc, x_r0, x_isT, x_oi, x_rv, x_ri, x_ra, Value.category, t161_0, t161_1, t161_4, t161_5, t161_6, t161_9, t161_10, t161_11, t161_12, t161_13, t161_14, t161_17, t161_18, t161_19, t161_22, t161_23, t161_24, t161_27, t161_28, t161_31, t161_32, t161_35, t161_38, lk_s, hp_get, hp_set, uH_at, uH_ne, uH_upd, uH_swap, iZ_add, iZ_sub, iZ_mul, iZ_neg, iZ_lt, iZ_le, iZ_eq, iZ_div, iZ_of, ix_Z, gZ_map, gZ_mapI, gZ_map', le_0, le_s, sZ_map, sZ_len, bZ_0, bZ_inj, bZ_t, bZ_f, nr_i, nr_0, nr_1, nr_b, ft_i, ft_b, ft_0, ft_1, zl_0, zl_1, l0, l1, hw, hb, hq', b1, mm1, mm2, sh_r, sh_l, nr_ar, ft_ar, bO, -List.filter_filter, -List.getElem?_map, -List.getD_eq_getElem?_getD]
end BV
/-- what the builder at sb holds -/
def SB (w : Nat → xC) (N sb : Nat) (L : List Int) : Prop := ∃ (v : Nat) (Bv : List Int), w sb = bO v L.length ∧ sb < v ∧ v < N ∧ w v = cI 5 Bv ∧ L.length ≤ Bv.length ∧ Bv.length ≤ 2 * L.length + 16 ∧ (∀ x ∈ Bv, 0 ≤ x ∧ x < 128) ∧ ∀ i : Nat, i < L.length → gZ Bv i = L.getD i 0
theorem sZ_mem {S : List Int} {a v x : Int} (h : x ∈ sZ S a v) : x ∈ S ∨ x = v := by
  unfold sZ at h
  exact List.mem_or_eq_of_mem_set h
section BX
variable {w : Nat → xC} {N sb : Nat} {L : List Int}
theorem SB_next {w' : Nat → xC} {N' v : Nat} {Bv : List Int} {c : Int} (hw : w' sb = bO v ((L.length : Int) + 1)) (h1 : sb < v) (h2 : v < N') (hb : w' v = cI 5 (sZ Bv L.length c)) (l1 : L.length + 1 ≤ Bv.length) (l2 : Bv.length ≤ 2 * L.length + 18) (hB : ∀ x ∈ Bv, 0 ≤ x ∧ x < 128) (c0 : 0 ≤ c) (c9 : c < 128) (hL : ∀ i : Nat, i < L.length → gZ Bv i = L.getD i 0) : SB w' N' sb (L ++ [c]) := by
  have e : (L ++ [c]).length = L.length + 1 := by simp
  refine ⟨v, sZ Bv L.length c, by rw [e]; exact hw, h1, h2, hb, by rw [sZ_len, e]; exact l1, by rw [sZ_len, e]; omega, fun x hx => ?_, fun i hi => ?_⟩
  · rcases sZ_mem hx with hx | hx
    · exact hB x hx
    · omega
  · rw [e] at hi
    rw [gZ_sZ (by omega) (by omega) (by omega), getD_app]
    by_cases q : i = L.length
    · rw [if_pos (by omega), if_neg (by omega), q, Nat.sub_self]
      rfl
    · rw [if_neg (by omega), if_pos (by omega)]
      exact hL i (by omega)
set_option maxHeartbeats 1000000 in
theorem m160 (d : Nat) (h : SB w N sb L) (l9 : L.length < 2000) (c : Int) (c0 : 0 ≤ c) (c9 : c < 128) :
    ∃ (w' : Nat → xC) (N' : Nat), N ≤ N' ∧ N' ≤ N + 1 ∧ SB w' N' sb (L ++ [c]) ∧ (∀ j, j < sb → w' j = w j) ∧ (∀ j, sb < j → j < N' → (j < N ∧ x_c1 (w' j) ≤ x_c1 (w j)) ∨ x_c1 (w' j) ≤ 2 * L.length + 18) ∧ x_le (hp w N) (hp w' N') ∧ Xc (d + 4) 160 [.ref (sb + 3), .int (iZ c)] (hp w N) (some (.ref (sb + 3)), hp w' N') := by
  obtain ⟨v, Bv, h1, h2, h3, h4, h5, h6, h7, h8⟩ := h
  have X6 := fun w N => m166 (d + 2) w N c c0 c9
  obtain ⟨n, hn⟩ : ∃ n : Int, n = (L.length : Int) := ⟨_, rfl⟩
  have n0 : 0 ≤ n := by omega
  have n9 : n < 2000 := by omega
  have nb := nar_b c0 c9
  by_cases hg : L.length < Bv.length
  · have X1 := m161n (N := N) (d + 2) (by omega) h3 h1 h4 (by omega) (n + 1) (by omega) (by omega)
    have X5 := m165 (N := N) (d + 2) (by omega) h1
    have hle : x_le (hp w N) (hp (uH (uH w sb (bO v ((L.length : Int) + 1))) v (cI 5 (sZ Bv L.length c))) N) := hp_le (Nat.le_refl _) (fun j hj => by
      by_cases e : j = v
      · rw [e, uH_at, h4]
        simp [x_c1, sZ_len]
      · rw [uH_ne e]
        by_cases e2 : j = sb
        · rw [e2, uH_at, h1]
          simp [x_c1]
        · rw [uH_ne e2]
          exact Nat.le_refl _)
    refine ⟨uH (uH w sb (bO v ((L.length : Int) + 1))) v (cI 5 (sZ Bv L.length c)), N, Nat.le_refl _, by omega, ?_, fun j hj => by rw [uH_ne (by omega), uH_ne (by omega)], fun j j0 j1 => ?_, hle, ?_⟩
    · exact SB_next (by rw [uH_ne (by omega), uH_at]) h2 h3 (uH_at _ _ _) (by omega) (by omega) h7 c0 c9 h8
    · by_cases e : j = v
      · right
        rw [e, uH_at]
        simp [x_c1, sZ_len]
        omega
      · left
        rw [uH_ne e, uH_ne (by omega)]
        exact ⟨by omega, Nat.le_refl _⟩
    · skip
      refine Xc.of rfl (by simp [lg_sl, Value.category]) ?_ (hle)
      have hc : c1 (lv_args 0 [.ref (sb + 3), .int (iZ c)]) := by simp [c1, lv_args, Value.category]
      have l0 : x_lk (lv_args 0 [.ref (sb + 3), .int (iZ c)]) 0 = some (.ref (sb + 3)) := rfl
      have l1 : x_lk (lv_args 0 [.ref (sb + 3), .int (iZ c)]) 1 = some (.int (iZ c)) := rfl
      generalize lv_args 0 [.ref (sb + 3), .int (iZ c)] = lv at hc l0 l1
      rw [← hn] at h1 ⊢
      refine Gx.fin 60 ((X1.and X5).and (X6 w N)) (fun X mm => ?_)
      obtain ⟨⟨mm1, mm2⟩, mm3⟩ := mm
      have nB : n < Bv.length := by omega
      have lB : Bv.length < 5000 := by omega
      simp (disch := first | (refine c1_id ?_; assumption) | (refine c1_st rfl ?_; repeat (first | assumption | refine c1_st rfl ?_)) | omega) [nx_l, nx_r, nx_n, x_st, x_push, x_bin, x_div, x_un, x_dup, x_pop, x_dup2, x_goto, x_ifeq, x_ifne, x_iflt, x_ifge, x_ifgt, x_ifle, x_iceq, x_icne, x_iclt, x_icge, x_icgt, x_icle, x_ifnull, x_ifnonnull, x_ldi, x_lda, x_sti, x_sta, x_iinc, x_gf, x_pf, x_ald, x_ast, x_aln, x_len, x_cl_, x_cv, x_cs, x_rc, x_r0, x_isT, x_oi, x_rv, x_ri, x_ra, Value.category, t160_0, t160_1, t160_2, t160_5, t160_6, t160_7, t160_10, t160_11, t160_14, t160_17, t160_18, t160_21, t160_24, t160_25, t160_28, t160_29, t160_30, t160_33, t160_34, t160_35, t160_36, t160_39, t160_40, t160_41, t160_42, t160_45, t160_46, t160_49, t160_52, t160_53, t160_56, t160_57, t160_60, t160_61, t160_62, t160_65, t160_66, t160_67, t160_68, t160_71, t160_72, t160_75, t160_76, lk_s, hp_get, hp_set, uH_at, uH_ne, uH_upd, uH_swap, iZ_add, iZ_sub, iZ_mul, iZ_neg, iZ_lt, iZ_le, iZ_eq, iZ_div, iZ_of, ix_Z, gZ_map, gZ_mapI, gZ_map', le_0, le_s, sZ_map, sZ_len, bZ_0, bZ_inj, bZ_t, bZ_f, nr_i, nr_0, nr_1, nr_b, ft_i, ft_b, ft_0, ft_1, zl_0, zl_1, l0, l1, h1, h4, mm1, mm2, mm3, nb, x_dupx1, bO, -List.filter_filter, -List.getElem?_map, -List.getD_eq_getElem?_getD]
  · have eL : Bv.length = L.length := by omega
    have X1 := m161y (N := N) d (by omega) h3 (by omega) h1 h4 (by omega) h7
    obtain ⟨Bn, hBn⟩ : ∃ Bn, Bn = Bv ++ List.replicate (Bv.length + 2) 0 := ⟨_, rfl⟩
    have lBn : Bn.length = 2 * L.length + 2 := by
      rw [hBn, List.length_append, List.length_replicate]
      omega
    rw [← hBn] at X1
    rw [eL, ← hn] at X1
    obtain ⟨w1, hw1⟩ : ∃ w1, w1 = uH (uH w sb (bO N n)) N (cI 5 Bn) := ⟨_, rfl⟩
    rw [← hw1] at X1
    have e1 : w1 sb = bO N n := by rw [hw1, uH_ne (by omega), uH_at]
    have e2 : w1 N = cI 5 Bn := by rw [hw1, uH_at]
    have X5 := m165 (N := N + 1) (d + 2) (by omega) e1
    have hle : x_le (hp w N) (hp (uH (uH w sb (bO N ((L.length : Int) + 1))) N (cI 5 (sZ Bn L.length c))) (N + 1)) := hp_le (by omega) (fun j hj => by
      rw [uH_ne (by omega)]
      by_cases e2 : j = sb
      · rw [e2, uH_at, h1]
        simp [x_c1]
      · rw [uH_ne e2]
        exact Nat.le_refl _)
    have hBn2 : ∀ x ∈ Bn, 0 ≤ x ∧ x < 128 := fun x hx => by
      rw [hBn] at hx
      rcases List.mem_append.mp hx with hx | hx
      · exact h7 x hx
      · have := List.eq_of_mem_replicate hx
        omega
    refine ⟨uH (uH w sb (bO N ((L.length : Int) + 1))) N (cI 5 (sZ Bn L.length c)), N + 1, by omega, Nat.le_refl _, ?_, fun j hj => by rw [uH_ne (by omega), uH_ne (by omega)], fun j j0 j1 => ?_, hle, ?_⟩
    · refine SB_next (by rw [uH_ne (by omega), uH_at]) (by omega) (by omega) (uH_at _ _ _) (by omega) (by omega) hBn2 c0 c9 (fun i hi => ?_)
      rw [← h8 i hi, hBn]
      unfold gZ
      rw [Int.toNat_natCast, getD_app, if_pos (by omega)]
    · by_cases e : j = N
      · right
        rw [e, uH_at]
        simp [x_c1, sZ_len]
        omega
      · left
        rw [uH_ne e, uH_ne (by omega)]
        exact ⟨by omega, Nat.le_refl _⟩
    · skip
      refine Xc.of rfl (by simp [lg_sl, Value.category]) ?_ (hle)
      have hc : c1 (lv_args 0 [.ref (sb + 3), .int (iZ c)]) := by simp [c1, lv_args, Value.category]
      have l0 : x_lk (lv_args 0 [.ref (sb + 3), .int (iZ c)]) 0 = some (.ref (sb + 3)) := rfl
      have l1 : x_lk (lv_args 0 [.ref (sb + 3), .int (iZ c)]) 1 = some (.int (iZ c)) := rfl
      generalize lv_args 0 [.ref (sb + 3), .int (iZ c)] = lv at hc l0 l1
      rw [← hn] at h1 ⊢
      refine Gx.fin 60 ((X1.and X5).and (X6 w1 (N + 1))) (fun X mm => ?_)
      obtain ⟨⟨mm1, mm2⟩, mm3⟩ := mm
      have nB : n < Bn.length := by omega
      have lB : Bn.length < 5000 := by omega
      have fin : uH (uH w1 sb (bO N (n + 1))) N (cI 5 (sZ Bn n c)) = uH (uH w sb (bO N (n + 1))) N (cI 5 (sZ Bn n c)) := by
        rw [hw1]
        funext j
        unfold uH
        split
        · rfl
        · split <;> rfl
      rw [← fin]
      simp (disch := first | (refine c1_id ?_; assumption) | (refine c1_st rfl ?_; repeat (first | assumption | refine c1_st rfl ?_)) | omega) [nx_l, nx_r, nx_n, x_st, x_push, x_bin, x_div, x_un, x_dup, x_pop, x_dup2, x_goto, x_ifeq, x_ifne, x_iflt, x_ifge, x_ifgt, x_ifle, x_iceq, x_icne, x_iclt, x_icge, x_icgt, x_icle, x_ifnull, x_ifnonnull, x_ldi, x_lda, x_sti, x_sta, x_iinc, x_gf, x_pf, x_ald, x_ast, x_aln, x_len, x_cl_, x_cv, x_cs, x_rc, x_r0, x_isT, x_oi, x_rv, x_ri, x_ra, Value.category, t160_0, t160_1, t160_2, t160_5, t160_6, t160_7, t160_10, t160_11, t160_14, t160_17, t160_18, t160_21, t160_24, t160_25, t160_28, t160_29, t160_30, t160_33, t160_34, t160_35, t160_36, t160_39, t160_40, t160_41, t160_42, t160_45, t160_46, t160_49, t160_52, t160_53, t160_56, t160_57, t160_60, t160_61, t160_62, t160_65, t160_66, t160_67, t160_68, t160_71, t160_72, t160_75, t160_76, lk_s, hp_get, hp_set, uH_at, uH_ne, uH_upd, uH_swap, iZ_add, iZ_sub, iZ_mul, iZ_neg, iZ_lt, iZ_le, iZ_eq, iZ_div, iZ_of, ix_Z, gZ_map, gZ_mapI, gZ_map', le_0, le_s, sZ_map, sZ_len, bZ_0, bZ_inj, bZ_t, bZ_f, nr_i, nr_0, nr_1, nr_b, ft_i, ft_b, ft_0, ft_1, zl_0, zl_1, l0, l1, h1, e1, e2, mm1, mm2, mm3, nb, x_dupx1, bO, -List.filter_filter, -List.getElem?_map, -List.getD_eq_getElem?_getD]
theorem m159 (d : Nat) (h : SB w N sb L) (l9 : L.length < 2000) (c : Int) (c0 : 0 ≤ c) (c9 : c < 128) :
    ∃ (w' : Nat → xC) (N' : Nat), N ≤ N' ∧ N' ≤ N + 1 ∧ SB w' N' sb (L ++ [c]) ∧ (∀ j, j < sb → w' j = w j) ∧ (∀ j, sb < j → j < N' → (j < N ∧ x_c1 (w' j) ≤ x_c1 (w j)) ∨ x_c1 (w' j) ≤ 2 * L.length + 18) ∧ x_le (hp w N) (hp w' N') ∧ Xc (d + 5) 159 [.ref (sb + 3), .int (iZ c)] (hp w N) (some (.ref (sb + 3)), hp w' N') := by
  obtain ⟨w', N', i1, i2, i3, i4, i5, i6, i7⟩ := m160 d h l9 c c0 c9
  refine ⟨w', N', i1, i2, i3, i4, i5, i6, ?_⟩
  obtain ⟨v, Bv, h1, h2, h3, _⟩ := h
  refine Xc.of rfl (by simp [lg_sl, Value.category]) ?_ (i6)
  have hc : c1 (lv_args 0 [.ref (sb + 3), .int (iZ c)]) := by simp [c1, lv_args, Value.category]
  have l0 : x_lk (lv_args 0 [.ref (sb + 3), .int (iZ c)]) 0 = some (.ref (sb + 3)) := rfl
  have l1 : x_lk (lv_args 0 [.ref (sb + 3), .int (iZ c)]) 1 = some (.int (iZ c)) := rfl
  generalize lv_args 0 [.ref (sb + 3), .int (iZ c)] = lv at hc l0 l1
  refine Gx.fin 20 i7 (fun X mm => ?_)
  simp (disch := first | (refine c1_id ?_; assumption) | (refine c1_st rfl ?_; repeat (first | assumption | refine c1_st rfl ?_)) | omega) [nx_l, nx_r, nx_n, x_st, x_push, x_bin, x_div, x_un, x_dup, x_pop, x_dup2, x_goto, x_ifeq, x_ifne, x_iflt, x_ifge, x_ifgt, x_ifle, x_iceq, x_icne, x_iclt, x_icge, x_icgt, x_icle, x_ifnull, x_ifnonnull, x_ldi, x_lda, x_sti, x_sta, x_iinc, x_gf, x_pf, x_ald, x_ast, x_aln, x_len, x_cl_, x_cv, x_cs, x_rc, x_r0, x_isT, x_oi, x_rv, x_ri, x_ra, Value.category, t159_0, t159_1, t159_2, t159_5, t159_6, t159_7, lk_s, hp_get, hp_set, uH_at, uH_ne, uH_upd, uH_swap, iZ_add, iZ_sub, iZ_mul, iZ_neg, iZ_lt, iZ_le, iZ_eq, iZ_div, iZ_of, ix_Z, gZ_map, gZ_mapI, gZ_map', le_0, le_s, sZ_map, sZ_len, bZ_0, bZ_inj, bZ_t, bZ_f, nr_i, nr_0, nr_1, nr_b, ft_i, ft_b, ft_0, ft_1, zl_0, zl_1, l0, l1, h1, mm, bO, -List.filter_filter, -List.getElem?_map, -List.getD_eq_getElem?_getD]
end BX
