/-! the class: variables are bound, released -/
theorem f56_0 : x_fetch q_k56 0 = x_ldi 1 1 := rfl
theorem t56_0 (C : xF) (s n : Nat) (z : xS) : x_to q_k56 C s (n + 1) 0 z = x_nx q_k56 C s n ((x_ldi 1 1) C z) := x_to_at f56_0 C s n z
theorem f56_1 : x_fetch q_k56 1 = x_st (x_push 3 (.int (26))) := rfl
theorem t56_1 (C : xF) (s n : Nat) (z : xS) : x_to q_k56 C s (n + 1) 1 z = x_nx q_k56 C s n ((x_st (x_push 3 (.int (26)))) C z) := x_to_at f56_1 C s n z
theorem f56_3 : x_fetch q_k56 3 = x_st (x_iclt 8 6) := rfl
theorem t56_3 (C : xF) (s n : Nat) (z : xS) : x_to q_k56 C s (n + 1) 3 z = x_nx q_k56 C s n ((x_st (x_iclt 8 6)) C z) := x_to_at f56_3 C s n z
theorem f56_6 : x_fetch q_k56 6 = x_st (x_push 7 (.int (0))) := rfl
theorem t56_6 (C : xF) (s n : Nat) (z : xS) : x_to q_k56 C s (n + 1) 6 z = x_nx q_k56 C s n ((x_st (x_push 7 (.int (0)))) C z) := x_to_at f56_6 C s n z
theorem f56_7 : x_fetch q_k56 7 = x_ri (.boolean) := rfl
theorem t56_7 (C : xF) (s n : Nat) (z : xS) : x_to q_k56 C s (n + 1) 7 z = x_nx q_k56 C s n ((x_ri (.boolean)) C z) := x_to_at f56_7 C s n z
theorem f56_8 : x_fetch q_k56 8 = x_lda 9 0 := rfl
theorem t56_8 (C : xF) (s n : Nat) (z : xS) : x_to q_k56 C s (n + 1) 8 z = x_nx q_k56 C s n ((x_lda 9 0) C z) := x_to_at f56_8 C s n z
theorem f56_9 : x_fetch q_k56 9 = x_gf 12 6 0 := rfl
theorem t56_9 (C : xF) (s n : Nat) (z : xS) : x_to q_k56 C s (n + 1) 9 z = x_nx q_k56 C s n ((x_gf 12 6 0) C z) := x_to_at f56_9 C s n z
theorem f56_12 : x_fetch q_k56 12 = x_ldi 13 1 := rfl
theorem t56_12 (C : xF) (s n : Nat) (z : xS) : x_to q_k56 C s (n + 1) 12 z = x_nx q_k56 C s n ((x_ldi 13 1) C z) := x_to_at f56_12 C s n z
theorem f56_13 : x_fetch q_k56 13 = x_ald 14 0 := rfl
theorem t56_13 (C : xF) (s n : Nat) (z : xS) : x_to q_k56 C s (n + 1) 13 z = x_nx q_k56 C s n ((x_ald 14 0) C z) := x_to_at f56_13 C s n z
theorem f56_14 : x_fetch q_k56 14 = x_st (x_iflt 33 17) := rfl
theorem t56_14 (C : xF) (s n : Nat) (z : xS) : x_to q_k56 C s (n + 1) 14 z = x_nx q_k56 C s n ((x_st (x_iflt 33 17)) C z) := x_to_at f56_14 C s n z
theorem f56_17 : x_fetch q_k56 17 = x_lda 18 2 := rfl
theorem t56_17 (C : xF) (s n : Nat) (z : xS) : x_to q_k56 C s (n + 1) 17 z = x_nx q_k56 C s n ((x_lda 18 2) C z) := x_to_at f56_17 C s n z
theorem f56_18 : x_fetch q_k56 18 = x_lda 19 0 := rfl
theorem t56_18 (C : xF) (s n : Nat) (z : xS) : x_to q_k56 C s (n + 1) 18 z = x_nx q_k56 C s n ((x_lda 19 0) C z) := x_to_at f56_18 C s n z
theorem f56_19 : x_fetch q_k56 19 = x_gf 22 6 0 := rfl
theorem t56_19 (C : xF) (s n : Nat) (z : xS) : x_to q_k56 C s (n + 1) 19 z = x_nx q_k56 C s n ((x_gf 22 6 0) C z) := x_to_at f56_19 C s n z
theorem f56_22 : x_fetch q_k56 22 = x_ldi 23 1 := rfl
theorem t56_22 (C : xF) (s n : Nat) (z : xS) : x_to q_k56 C s (n + 1) 22 z = x_nx q_k56 C s n ((x_ldi 23 1) C z) := x_to_at f56_22 C s n z
theorem f56_23 : x_fetch q_k56 23 = x_ald 24 0 := rfl
theorem t56_23 (C : xF) (s n : Nat) (z : xS) : x_to q_k56 C s (n + 1) 23 z = x_nx q_k56 C s n ((x_ald 24 0) C z) := x_to_at f56_23 C s n z
theorem f56_24 : x_fetch q_k56 24 = x_ldi 25 3 := rfl
theorem t56_24 (C : xF) (s n : Nat) (z : xS) : x_to q_k56 C s (n + 1) 24 z = x_nx q_k56 C s n ((x_ldi 25 3) C z) := x_to_at f56_24 C s n z
theorem f56_25 : x_fetch q_k56 25 = x_ldi 27 4 := rfl
theorem t56_25 (C : xF) (s n : Nat) (z : xS) : x_to q_k56 C s (n + 1) 25 z = x_nx q_k56 C s n ((x_ldi 27 4) C z) := x_to_at f56_25 C s n z
theorem f56_27 : x_fetch q_k56 27 = x_ldi 28 3 := rfl
theorem t56_27 (C : xF) (s n : Nat) (z : xS) : x_to q_k56 C s (n + 1) 27 z = x_nx q_k56 C s n ((x_ldi 28 3) C z) := x_to_at f56_27 C s n z
theorem f56_28 : x_fetch q_k56 28 = x_st (x_bin 29 (fun a b => a - b)) := rfl
theorem t56_28 (C : xF) (s n : Nat) (z : xS) : x_to q_k56 C s (n + 1) 28 z = x_nx q_k56 C s n ((x_st (x_bin 29 (fun a b => a - b))) C z) := x_to_at f56_28 C s n z
theorem f56_29 : x_fetch q_k56 29 = x_cv 32 19 4 4 := rfl
theorem t56_29 (C : xF) (s n : Nat) (z : xS) : x_to q_k56 C s (n + 1) 29 z = x_nx q_k56 C s n ((x_cv 32 19 4 4) C z) := x_to_at f56_29 C s n z
theorem f56_32 : x_fetch q_k56 32 = x_ri (.boolean) := rfl
theorem t56_32 (C : xF) (s n : Nat) (z : xS) : x_to q_k56 C s (n + 1) 32 z = x_nx q_k56 C s n ((x_ri (.boolean)) C z) := x_to_at f56_32 C s n z
theorem f56_33 : x_fetch q_k56 33 = x_lda 34 0 := rfl
theorem t56_33 (C : xF) (s n : Nat) (z : xS) : x_to q_k56 C s (n + 1) 33 z = x_nx q_k56 C s n ((x_lda 34 0) C z) := x_to_at f56_33 C s n z
theorem f56_34 : x_fetch q_k56 34 = x_gf 37 6 2 := rfl
theorem t56_34 (C : xF) (s n : Nat) (z : xS) : x_to q_k56 C s (n + 1) 34 z = x_nx q_k56 C s n ((x_gf 37 6 2) C z) := x_to_at f56_34 C s n z
theorem f56_37 : x_fetch q_k56 37 = x_st (x_push 39 (.int (26))) := rfl
theorem t56_37 (C : xF) (s n : Nat) (z : xS) : x_to q_k56 C s (n + 1) 37 z = x_nx q_k56 C s n ((x_st (x_push 39 (.int (26)))) C z) := x_to_at f56_37 C s n z
theorem f56_39 : x_fetch q_k56 39 = x_st (x_iclt 44 42) := rfl
theorem t56_39 (C : xF) (s n : Nat) (z : xS) : x_to q_k56 C s (n + 1) 39 z = x_nx q_k56 C s n ((x_st (x_iclt 44 42)) C z) := x_to_at f56_39 C s n z
theorem f56_42 : x_fetch q_k56 42 = x_st (x_push 43 (.int (0))) := rfl
theorem t56_42 (C : xF) (s n : Nat) (z : xS) : x_to q_k56 C s (n + 1) 42 z = x_nx q_k56 C s n ((x_st (x_push 43 (.int (0)))) C z) := x_to_at f56_42 C s n z
theorem f56_43 : x_fetch q_k56 43 = x_ri (.boolean) := rfl
theorem t56_43 (C : xF) (s n : Nat) (z : xS) : x_to q_k56 C s (n + 1) 43 z = x_nx q_k56 C s n ((x_ri (.boolean)) C z) := x_to_at f56_43 C s n z
theorem f56_44 : x_fetch q_k56 44 = x_lda 45 0 := rfl
theorem t56_44 (C : xF) (s n : Nat) (z : xS) : x_to q_k56 C s (n + 1) 44 z = x_nx q_k56 C s n ((x_lda 45 0) C z) := x_to_at f56_44 C s n z
theorem f56_45 : x_fetch q_k56 45 = x_gf 48 6 0 := rfl
theorem t56_45 (C : xF) (s n : Nat) (z : xS) : x_to q_k56 C s (n + 1) 45 z = x_nx q_k56 C s n ((x_gf 48 6 0) C z) := x_to_at f56_45 C s n z
theorem f56_48 : x_fetch q_k56 48 = x_ldi 49 1 := rfl
theorem t56_48 (C : xF) (s n : Nat) (z : xS) : x_to q_k56 C s (n + 1) 48 z = x_nx q_k56 C s n ((x_ldi 49 1) C z) := x_to_at f56_48 C s n z
theorem f56_49 : x_fetch q_k56 49 = x_ldi 50 3 := rfl
theorem t56_49 (C : xF) (s n : Nat) (z : xS) : x_to q_k56 C s (n + 1) 49 z = x_nx q_k56 C s n ((x_ldi 50 3) C z) := x_to_at f56_49 C s n z
theorem f56_50 : x_fetch q_k56 50 = x_ast 51 0 (fun x => x) := rfl
theorem t56_50 (C : xF) (s n : Nat) (z : xS) : x_to q_k56 C s (n + 1) 50 z = x_nx q_k56 C s n ((x_ast 51 0 (fun x => x)) C z) := x_to_at f56_50 C s n z
theorem f56_51 : x_fetch q_k56 51 = x_lda 52 0 := rfl
theorem t56_51 (C : xF) (s n : Nat) (z : xS) : x_to q_k56 C s (n + 1) 51 z = x_nx q_k56 C s n ((x_lda 52 0) C z) := x_to_at f56_51 C s n z
theorem f56_52 : x_fetch q_k56 52 = x_gf 55 6 1 := rfl
theorem t56_52 (C : xF) (s n : Nat) (z : xS) : x_to q_k56 C s (n + 1) 52 z = x_nx q_k56 C s n ((x_gf 55 6 1) C z) := x_to_at f56_52 C s n z
theorem f56_55 : x_fetch q_k56 55 = x_lda 56 0 := rfl
theorem t56_55 (C : xF) (s n : Nat) (z : xS) : x_to q_k56 C s (n + 1) 55 z = x_nx q_k56 C s n ((x_lda 56 0) C z) := x_to_at f56_55 C s n z
theorem f56_56 : x_fetch q_k56 56 = x_gf 59 6 2 := rfl
theorem t56_56 (C : xF) (s n : Nat) (z : xS) : x_to q_k56 C s (n + 1) 56 z = x_nx q_k56 C s n ((x_gf 59 6 2) C z) := x_to_at f56_56 C s n z
theorem f56_59 : x_fetch q_k56 59 = x_ldi 60 1 := rfl
theorem t56_59 (C : xF) (s n : Nat) (z : xS) : x_to q_k56 C s (n + 1) 59 z = x_nx q_k56 C s n ((x_ldi 60 1) C z) := x_to_at f56_59 C s n z
theorem f56_60 : x_fetch q_k56 60 = x_ast 61 0 (fun x => x) := rfl
theorem t56_60 (C : xF) (s n : Nat) (z : xS) : x_to q_k56 C s (n + 1) 60 z = x_nx q_k56 C s n ((x_ast 61 0 (fun x => x)) C z) := x_to_at f56_60 C s n z
theorem f56_61 : x_fetch q_k56 61 = x_lda 62 0 := rfl
theorem t56_61 (C : xF) (s n : Nat) (z : xS) : x_to q_k56 C s (n + 1) 61 z = x_nx q_k56 C s n ((x_lda 62 0) C z) := x_to_at f56_61 C s n z
theorem f56_62 : x_fetch q_k56 62 = x_st (x_dup 63) := rfl
theorem t56_62 (C : xF) (s n : Nat) (z : xS) : x_to q_k56 C s (n + 1) 62 z = x_nx q_k56 C s n ((x_st (x_dup 63)) C z) := x_to_at f56_62 C s n z
theorem f56_63 : x_fetch q_k56 63 = x_gf 66 6 2 := rfl
theorem t56_63 (C : xF) (s n : Nat) (z : xS) : x_to q_k56 C s (n + 1) 63 z = x_nx q_k56 C s n ((x_gf 66 6 2) C z) := x_to_at f56_63 C s n z
theorem f56_66 : x_fetch q_k56 66 = x_st (x_push 67 (.int (1))) := rfl
theorem t56_66 (C : xF) (s n : Nat) (z : xS) : x_to q_k56 C s (n + 1) 66 z = x_nx q_k56 C s n ((x_st (x_push 67 (.int (1)))) C z) := x_to_at f56_66 C s n z
theorem f56_67 : x_fetch q_k56 67 = x_st (x_bin 68 (fun a b => a + b)) := rfl
theorem t56_67 (C : xF) (s n : Nat) (z : xS) : x_to q_k56 C s (n + 1) 67 z = x_nx q_k56 C s n ((x_st (x_bin 68 (fun a b => a + b))) C z) := x_to_at f56_67 C s n z
theorem f56_68 : x_fetch q_k56 68 = x_pf 71 6 2 (.int) := rfl
theorem t56_68 (C : xF) (s n : Nat) (z : xS) : x_to q_k56 C s (n + 1) 68 z = x_nx q_k56 C s n ((x_pf 71 6 2 (.int)) C z) := x_to_at f56_68 C s n z
theorem f56_71 : x_fetch q_k56 71 = x_st (x_push 72 (.int (1))) := rfl
theorem t56_71 (C : xF) (s n : Nat) (z : xS) : x_to q_k56 C s (n + 1) 71 z = x_nx q_k56 C s n ((x_st (x_push 72 (.int (1)))) C z) := x_to_at f56_71 C s n z
theorem f56_72 : x_fetch q_k56 72 = x_ri (.boolean) := rfl
theorem t56_72 (C : xF) (s n : Nat) (z : xS) : x_to q_k56 C s (n + 1) 72 z = x_nx q_k56 C s n ((x_ri (.boolean)) C z) := x_to_at f56_72 C s n z
theorem f57_0 : x_fetch q_k57 0 = x_lda 1 0 := rfl
theorem t57_0 (C : xF) (s n : Nat) (z : xS) : x_to q_k57 C s (n + 1) 0 z = x_nx q_k57 C s n ((x_lda 1 0) C z) := x_to_at f57_0 C s n z
theorem f57_1 : x_fetch q_k57 1 = x_gf 4 6 2 := rfl
theorem t57_1 (C : xF) (s n : Nat) (z : xS) : x_to q_k57 C s (n + 1) 1 z = x_nx q_k57 C s n ((x_gf 4 6 2) C z) := x_to_at f57_1 C s n z
theorem f57_4 : x_fetch q_k57 4 = x_ldi 5 1 := rfl
theorem t57_4 (C : xF) (s n : Nat) (z : xS) : x_to q_k57 C s (n + 1) 4 z = x_nx q_k57 C s n ((x_ldi 5 1) C z) := x_to_at f57_4 C s n z
theorem f57_5 : x_fetch q_k57 5 = x_st (x_icle 36 8) := rfl
theorem t57_5 (C : xF) (s n : Nat) (z : xS) : x_to q_k57 C s (n + 1) 5 z = x_nx q_k57 C s n ((x_st (x_icle 36 8)) C z) := x_to_at f57_5 C s n z
theorem f57_8 : x_fetch q_k57 8 = x_lda 9 0 := rfl
theorem t57_8 (C : xF) (s n : Nat) (z : xS) : x_to q_k57 C s (n + 1) 8 z = x_nx q_k57 C s n ((x_lda 9 0) C z) := x_to_at f57_8 C s n z
theorem f57_9 : x_fetch q_k57 9 = x_st (x_dup 10) := rfl
theorem t57_9 (C : xF) (s n : Nat) (z : xS) : x_to q_k57 C s (n + 1) 9 z = x_nx q_k57 C s n ((x_st (x_dup 10)) C z) := x_to_at f57_9 C s n z
theorem f57_10 : x_fetch q_k57 10 = x_gf 13 6 2 := rfl
theorem t57_10 (C : xF) (s n : Nat) (z : xS) : x_to q_k57 C s (n + 1) 10 z = x_nx q_k57 C s n ((x_gf 13 6 2) C z) := x_to_at f57_10 C s n z
theorem f57_13 : x_fetch q_k57 13 = x_st (x_push 14 (.int (1))) := rfl
theorem t57_13 (C : xF) (s n : Nat) (z : xS) : x_to q_k57 C s (n + 1) 13 z = x_nx q_k57 C s n ((x_st (x_push 14 (.int (1)))) C z) := x_to_at f57_13 C s n z
theorem f57_14 : x_fetch q_k57 14 = x_st (x_bin 15 (fun a b => a - b)) := rfl
theorem t57_14 (C : xF) (s n : Nat) (z : xS) : x_to q_k57 C s (n + 1) 14 z = x_nx q_k57 C s n ((x_st (x_bin 15 (fun a b => a - b))) C z) := x_to_at f57_14 C s n z
theorem f57_15 : x_fetch q_k57 15 = x_pf 18 6 2 (.int) := rfl
theorem t57_15 (C : xF) (s n : Nat) (z : xS) : x_to q_k57 C s (n + 1) 15 z = x_nx q_k57 C s n ((x_pf 18 6 2 (.int)) C z) := x_to_at f57_15 C s n z
theorem f57_18 : x_fetch q_k57 18 = x_lda 19 0 := rfl
theorem t57_18 (C : xF) (s n : Nat) (z : xS) : x_to q_k57 C s (n + 1) 18 z = x_nx q_k57 C s n ((x_lda 19 0) C z) := x_to_at f57_18 C s n z
theorem f57_19 : x_fetch q_k57 19 = x_gf 22 6 0 := rfl
theorem t57_19 (C : xF) (s n : Nat) (z : xS) : x_to q_k57 C s (n + 1) 19 z = x_nx q_k57 C s n ((x_gf 22 6 0) C z) := x_to_at f57_19 C s n z
theorem f57_22 : x_fetch q_k57 22 = x_lda 23 0 := rfl
theorem t57_22 (C : xF) (s n : Nat) (z : xS) : x_to q_k57 C s (n + 1) 22 z = x_nx q_k57 C s n ((x_lda 23 0) C z) := x_to_at f57_22 C s n z
theorem f57_23 : x_fetch q_k57 23 = x_gf 26 6 1 := rfl
theorem t57_23 (C : xF) (s n : Nat) (z : xS) : x_to q_k57 C s (n + 1) 23 z = x_nx q_k57 C s n ((x_gf 26 6 1) C z) := x_to_at f57_23 C s n z
theorem f57_26 : x_fetch q_k57 26 = x_lda 27 0 := rfl
theorem t57_26 (C : xF) (s n : Nat) (z : xS) : x_to q_k57 C s (n + 1) 26 z = x_nx q_k57 C s n ((x_lda 27 0) C z) := x_to_at f57_26 C s n z
theorem f57_27 : x_fetch q_k57 27 = x_gf 30 6 2 := rfl
theorem t57_27 (C : xF) (s n : Nat) (z : xS) : x_to q_k57 C s (n + 1) 27 z = x_nx q_k57 C s n ((x_gf 30 6 2) C z) := x_to_at f57_27 C s n z
theorem f57_30 : x_fetch q_k57 30 = x_ald 31 0 := rfl
theorem t57_30 (C : xF) (s n : Nat) (z : xS) : x_to q_k57 C s (n + 1) 30 z = x_nx q_k57 C s n ((x_ald 31 0) C z) := x_to_at f57_30 C s n z
theorem f57_31 : x_fetch q_k57 31 = x_st (x_push 32 (.int (-1))) := rfl
theorem t57_31 (C : xF) (s n : Nat) (z : xS) : x_to q_k57 C s (n + 1) 31 z = x_nx q_k57 C s n ((x_st (x_push 32 (.int (-1)))) C z) := x_to_at f57_31 C s n z
theorem f57_32 : x_fetch q_k57 32 = x_ast 33 0 (fun x => x) := rfl
theorem t57_32 (C : xF) (s n : Nat) (z : xS) : x_to q_k57 C s (n + 1) 32 z = x_nx q_k57 C s n ((x_ast 33 0 (fun x => x)) C z) := x_to_at f57_32 C s n z
theorem f57_33 : x_fetch q_k57 33 = x_st (x_goto 0) := rfl
theorem t57_33 (C : xF) (s n : Nat) (z : xS) : x_to q_k57 C s (n + 1) 33 z = x_nx q_k57 C s n ((x_st (x_goto 0)) C z) := x_to_at f57_33 C s n z
theorem f57_36 : x_fetch q_k57 36 = x_rv := rfl
theorem t57_36 (C : xF) (s n : Nat) (z : xS) : x_to q_k57 C s (n + 1) 36 z = x_nx q_k57 C s n ((x_rv) C z) := x_to_at f57_36 C s n z
abbrev MO (mn : Int) : xC := .inr (6, [.ref 28, .ref 29, .int (iZ mn)])
def BW (E : List (Int × List Int)) (Tm Bn vs : List Int) (b : Int → List Int) : Prop := Tm.length = 26 ∧ Bn.length = 26 ∧ vs.Nodup ∧ (∀ v ∈ vs, 0 ≤ v ∧ v < 26) ∧ (∀ i : Nat, i < vs.length → gZ Bn i = vs.getD i 0) ∧ ∀ v, 0 ≤ v → v < 26 → (¬ v ∈ vs → gZ Tm v = -1 ∧ b v = []) ∧ (v ∈ vs → 0 ≤ gZ Tm v ∧ gZ Tm v < (flt E).length ∧ tm (flt E) (gZ Tm v).toNat = b v ∧ Ts 1 (b v))
def MW (w : Nat → xC) (E : List (Int × List Int)) (vs : List Int) (b : Int → List Int) : Prop := ∃ Tm Bn : List Int, w 24 = MO vs.length ∧ w 25 = cI 0 Tm ∧ w 26 = cI 0 Bn ∧ BW E Tm Bn vs b
def ksMa : List Nat := [24, 25, 26]
theorem in26 {vs : List Int} (h : vs.Nodup) (hb : ∀ v ∈ vs, 0 ≤ v ∧ v < 26) : vs.length ≤ 26 := by
  have key : ∀ l : List Int, l.Nodup → (∀ v ∈ l, 0 ≤ v ∧ v < 26) → (l.map Int.toNat).Nodup := by
    intro l
    induction l with
    | nil => intro _ _; exact List.nodup_nil
    | cons a l ih =>
      intro hn hb
      rw [List.nodup_cons] at hn
      rw [List.map_cons, List.nodup_cons]
      refine ⟨fun z => ?_, ih hn.2 (fun v hv => hb v (List.mem_cons_of_mem _ hv))⟩
      obtain ⟨y, hy, e⟩ := List.mem_map.mp z
      have b1 := hb a List.mem_cons_self
      have b2 := hb y (List.mem_cons_of_mem _ hy)
      have : y = a := by omega
      exact hn.1 (this ▸ hy)
  have := pigeon (n := 26) (key _ h hb) (fun y hy => by
    obtain ⟨z, hz, e⟩ := List.mem_map.mp hy
    have := hb z hz
    omega)
  rw [List.length_map] at this
  exact this
theorem MW.le {w w' : Nat → xC} {N : Nat} {E E' : List (Int × List Int)} {vs vs' : List Int} {b b' : Int → List Int} (f : Fr ksMa w w') (h : MW w E vs b) (g : MW w' E' vs' b') : x_le (hp w N) (hp w' N) := hp_le (Nat.le_refl _) (fun j _ => by
  by_cases hj : j ∈ ksMa
  · obtain ⟨Tm, Bn, h1, h2, h3, h4, h5, _⟩ := h
    obtain ⟨Tm', Bn', g1, g2, g3, g4, g5, _⟩ := g
    unfold ksMa at hj
    simp only [List.mem_cons, List.not_mem_nil, or_false] at hj
    rcases hj with rfl | rfl | rfl
    · rw [h1, g1]; simp [x_c1]
    · rw [h2, g2]; simp [x_c1, h4, g4]
    · rw [h3, g3]; simp [x_c1, h5, g5]
  · rw [f j hj]
    exact Nat.le_refl _)
theorem tm_iff {P u : List Int} {i : Nat} (hT : Ts 1 u) : tm P i = u ↔ (P.drop i).take u.length = u := by
  constructor
  · intro e
    obtain ⟨b, hb⟩ := tk_pre (P.drop i) 1
    unfold tm at e
    rw [e] at hb
    rw [hb, List.take_left]
  · intro e
    unfold tm
    have : P.drop i = u ++ (P.drop i).drop u.length := by
      have := (List.take_append_drop u.length (P.drop i)).symm
      rw [e] at this
      exact this
    rw [this]
    exact tk_app hT
theorem Ts1_pos {u : List Int} (h : Ts 1 u) : 0 < u.length := by
  cases hh : u with
  | nil =>
    rw [hh] at h
    exact absurd h (by simp [Ts])
  | cons s t => simp
theorem same_tm {E : List (Int × List Int)} {S En B : List Int} (hW : FW E S En B) (hg : gV E) {p q : Nat} (hq : q < (flt E).length) (hT : Ts 1 (tm (flt E) q)) : (decide ((p : Int) + (tm (flt E) q).length ≤ (flt E).length ∧ (q : Int) + (tm (flt E) q).length ≤ (flt E).length) && ssZ S p q (tm (flt E) q).length) = decide (tm (flt E) p = tm (flt E) q) := by
  have hq2 := tm_len_le (P := flt E) (i := q) (by omega)
  obtain ⟨n, hn⟩ : ∃ n, n = (tm (flt E) q).length := ⟨_, rfl⟩
  have hn0 := Ts1_pos hT
  have hqt := (tm_iff (P := flt E) (i := q) hT).mp rfl
  rw [← hn] at hqt hq2 hn0 ⊢
  rw [Bool.eq_iff_iff, Bool.and_eq_true, decide_eq_true_iff, decide_eq_true_iff, ssZ_iff, tm_iff hT, ← hn, ← hqt]
  have gt : ∀ {a i : Nat}, a + i < (flt E).length → i < n → (((flt E).drop a).take n).getD i 0 = (flt E).getD (a + i) 0 := fun {a i} ha hi => by
    rw [List.getD_eq_getElem?_getD, List.getElem?_take_of_lt hi, List.getElem?_drop, List.getD_eq_getElem?_getD]
  constructor
  · rintro ⟨h1, h2⟩
    refine getD_ext ?_ (fun i hi => ?_)
    · rw [List.length_take, List.length_drop, List.length_take, List.length_drop]
      omega
    · rw [List.length_take, List.length_drop] at hi
      have e := h2 i (by omega)
      rw [gt (by omega) (by omega), gt (by omega) (by omega)]
      have a1 := hW.1 (p + i) (by omega)
      have a2 := hW.1 (q + i) (by omega)
      rw [show ((p + i : Nat) : Int) = (p : Int) + i by omega] at a1
      rw [show ((q + i : Nat) : Int) = (q : Int) + i by omega] at a2
      rw [a1, a2] at e
      exact vc_inj (hg.sg (by omega)) (hg.sg (by omega)) e
  · intro h
    have hl := congrArg List.length h
    rw [List.length_take, List.length_drop, List.length_take, List.length_drop] at hl
    refine ⟨by omega, fun i hi => ?_⟩
    have a1 := hW.1 (p + i) (by omega)
    have a2 := hW.1 (q + i) (by omega)
    rw [show ((p + i : Nat) : Int) = (p : Int) + i by omega] at a1
    rw [show ((q + i : Nat) : Int) = (q : Int) + i by omega] at a2
    rw [a1, a2, ← gt (a := p) (i := i) (by omega) hi, ← gt (a := q) (i := i) (by omega) hi, h]
section MA
variable {w : Nat → xC} {N : Nat} {E : List (Int × List Int)} {vs : List Int} {b : Int → List Int}
theorem BW.add {Tm Bn : List Int} (h : BW E Tm Bn vs b) {v : Int} (v0 : 0 ≤ v) (v1 : v < 26) (hv : ¬ v ∈ vs) {q : Nat} (hq : q < (flt E).length) (hT : Ts 1 (tm (flt E) q)) : vs.length < 26 ∧ BW E (sZ Tm v q) (sZ Bn vs.length v) (vs ++ [v]) (bU b v (tm (flt E) q)) := by
  obtain ⟨h1, h2, h3, h4, h5, h6⟩ := h
  have nd : (vs ++ [v]).Nodup := by
    rw [List.nodup_append]
    refine ⟨h3, by simp, fun a ha c hc => ?_⟩
    rw [List.mem_singleton] at hc
    subst hc
    exact fun e => hv (e ▸ ha)
  have rg : ∀ u ∈ vs ++ [v], 0 ≤ u ∧ u < 26 := fun u hu => by
    rcases List.mem_append.mp hu with hu | hu
    · exact h4 u hu
    · rw [List.mem_singleton] at hu
      omega
  have l26 := in26 nd rg
  rw [List.length_append, List.length_singleton] at l26
  refine ⟨by omega, by rw [sZ_len]; exact h1, by rw [sZ_len]; exact h2, nd, rg, fun i hi => ?_, fun u u0 u1 => ?_⟩
  · rw [List.length_append, List.length_singleton] at hi
    rw [gZ_sZ (by omega) (by omega) (by omega), List.getD_eq_getElem?_getD]
    by_cases e : i = vs.length
    · rw [if_pos (by omega), e, List.getElem?_append_right (by omega), Nat.sub_self]
      rfl
    · rw [if_neg (by omega), List.getElem?_append_left (by omega), h5 i (by omega), List.getD_eq_getElem?_getD]
  · rw [gZ_sZ v0 (by omega) u0]
    unfold bU
    by_cases e : v = u
    · subst e
      rw [if_pos rfl, if_pos rfl]
      refine ⟨fun z => absurd (List.mem_append_right _ (List.mem_singleton.mpr rfl)) z, fun _ => ⟨by omega, by omega, by rw [Int.toNat_natCast], hT⟩⟩
    · rw [if_neg e, if_neg (fun z => e z.symm)]
      have hm : u ∈ vs ++ [v] ↔ u ∈ vs := by
        rw [List.mem_append, List.mem_singleton]
        constructor
        · rintro (z | z)
          · exact z
          · exact absurd z.symm e
        · exact Or.inl
      rw [hm]
      exact h6 u u0 u1
theorem BW.drop {Tm Bn : List Int} {v : Int} {b' : Int → List Int} (h : BW E Tm Bn (vs ++ [v]) b') (hb : ∀ u, u ∈ vs → b' u = b u) (hz : ∀ u, 0 ≤ u → u < 26 → ¬ u ∈ vs → b u = []) : BW E (sZ Tm v (-1)) Bn vs b := by
  obtain ⟨h1, h2, h3, h4, h5, h6⟩ := h
  have hv := h4 v (List.mem_append_right _ (List.mem_singleton.mpr rfl))
  rw [List.nodup_append] at h3
  have hnv : ¬ v ∈ vs := fun z => h3.2.2 v z v (List.mem_singleton.mpr rfl) rfl
  refine ⟨by rw [sZ_len]; exact h1, h2, h3.1, fun u hu => h4 u (List.mem_append_left _ hu), fun i hi => ?_, fun u u0 u1 => ?_⟩
  · rw [h5 i (by rw [List.length_append, List.length_singleton]; omega), List.getD_eq_getElem?_getD, List.getD_eq_getElem?_getD, List.getElem?_append_left hi]
  · rw [gZ_sZ hv.1 (by omega) u0]
    by_cases e : v = u
    · subst e
      rw [if_pos rfl]
      exact ⟨fun z => ⟨rfl, hz v u0 u1 z⟩, fun z => absurd z hnv⟩
    · rw [if_neg e]
      obtain ⟨k1, k2⟩ := h6 u u0 u1
      refine ⟨fun z => ⟨(k1 (fun y => ?_)).1, hz u u0 u1 z⟩, fun z => ?_⟩
      · rcases List.mem_append.mp y with y | y
        · exact z y
        · rw [List.mem_singleton] at y
          exact e y.symm
      · have := k2 (List.mem_append_left _ z)
        rw [hb u z] at this
        exact this
theorem l57 (d : Nat) (hN : 53 ≤ N) (hz : ∀ u, 0 ≤ u → u < 26 → ¬ u ∈ vs → b u = []) : ∀ (n : Nat) (ex : List Int) (b' : Int → List Int) (w : Nat → xC) (lv : xL), ex.length = n → MW w E (vs ++ ex) b' → (∀ u, u ∈ vs → b' u = b u) → c1 lv → x_lk lv 0 = some (.ref 27) → x_lk lv 1 = some (.int (iZ (vs.length : Int))) → ∃ w', Fr ksMa w w' ∧ MW w' E vs b ∧ Gx q_k57 d 0 (lv, [], hp w N) (none, hp w' N)
  | 0, ex, b', w, lv, hn, h, hb, hc, l0, l1 => by
    have e : ex = [] := List.eq_nil_of_length_eq_zero hn
    subst e
    rw [List.append_nil] at h
    obtain ⟨Tm, Bn, h1, h2, h3, h4⟩ := h
    have h4' := h4
    obtain ⟨k1, k2, k3, k4, k5, k6⟩ := h4'
    have l26 := in26 k3 k4
    refine ⟨w, Fr.rf _ _, ⟨Tm, Bn, h1, h2, h3, k1, k2, k3, k4, k5, fun u u0 u1 => ⟨fun z => ⟨((k6 u u0 u1).1 z).1, hz u u0 u1 z⟩, fun z => by have := (k6 u u0 u1).2 z; rw [hb u z] at this; exact this⟩⟩, Gx.fin 20 Cs.tt (fun X _ => ?_)⟩
    obtain ⟨m, hm⟩ : ∃ m : Int, m = (vs.length : Int) := ⟨_, rfl⟩
    rw [← hm] at h1 l1
    have m0 : 0 ≤ m := by omega
    have m9 : m ≤ 26 := by omega
    have b1 : m ≤ m := by omega
    simp (disch := first | (refine c1_id ?_; assumption) | (refine c1_st rfl ?_; repeat (first | assumption | refine c1_st rfl ?_)) | omega) [nx_l, nx_r, nx_n, x_st, x_push, x_bin, x_div, x_un, x_dup, x_pop, x_dup2, x_goto, x_ifeq, x_ifne, x_iflt, x_ifge, x_ifgt, x_ifle, x_iceq, x_icne, x_iclt, x_icge, x_icgt, x_icle, x_ifnull, x_ifnonnull, x_ldi, x_lda, x_sti, x_sta, x_iinc, x_gf, x_pf, x_ald, x_ast, x_aln, x_len, x_cl_, x_cv, x_cs, x_rc, x_r0, x_isT, x_oi, x_rv, x_ri, x_ra, Value.category, t57_0, t57_1, t57_4, t57_5, t57_8, t57_9, t57_10, t57_13, t57_14, t57_15, t57_18, t57_19, t57_22, t57_23, t57_26, t57_27, t57_30, t57_31, t57_32, t57_33, t57_36, lk_s, hp_get, hp_set, uH_at, uH_ne, uH_upd, uH_swap, iZ_add, iZ_sub, iZ_mul, iZ_neg, iZ_lt, iZ_le, iZ_eq, iZ_div, iZ_of, ix_Z, gZ_map, gZ_mapI, gZ_map', le_0, le_s, sZ_map, sZ_len, bZ_0, bZ_inj, bZ_t, bZ_f, nr_i, nr_0, nr_1, nr_b, ft_i, ft_b, ft_0, ft_1, zl_0, zl_1, l0, l1, h1, b1, MO, -List.filter_filter, -List.getElem?_map, -List.getD_eq_getElem?_getD]
  | n + 1, ex, b', w, lv, hn, h, hb, hc, l0, l1 => by
    obtain ⟨ex', v, e⟩ : ∃ ex' v, ex = ex' ++ [v] := ⟨ex.dropLast, ex.getLast (fun z => by rw [z] at hn; cases hn), (List.dropLast_concat_getLast _).symm⟩
    subst e
    rw [List.length_append, List.length_singleton] at hn
    rw [← List.append_assoc] at h
    obtain ⟨Tm, Bn, h1, h2, h3, h4⟩ := h
    have h4' := h4
    obtain ⟨k1, k2, k3, k4, k5, k6⟩ := h4'
    have l26 := in26 k3 k4
    have hv := k4 v (List.mem_append_right _ (List.mem_singleton.mpr rfl))
    rw [List.length_append, List.length_singleton, List.length_append] at l26
    have hlast : gZ Bn ((vs ++ ex').length : Nat) = v := by
      rw [k5 _ (by simp), List.getD_eq_getElem?_getD, List.getElem?_append_right (Nat.le_refl _), Nat.sub_self]
      rfl
    -- what the shorter row means
    obtain ⟨b2, hb2⟩ : ∃ b2 : Int → List Int, b2 = fun u => if u ∈ vs ++ ex' then b' u else [] := ⟨_, rfl⟩
    have hBW := BW.drop (b := b2) h4 (fun u hu => by rw [hb2]; exact (if_pos hu).symm) (fun u _ _ hu => by rw [hb2]; exact if_neg hu)
    obtain ⟨w1, hw1⟩ : ∃ w1, w1 = uH (uH w 24 (MO (vs ++ ex').length)) 25 (cI 0 (sZ Tm v (-1))) := ⟨_, rfl⟩
    have hM : MW w1 E (vs ++ ex') b2 := ⟨sZ Tm v (-1), Bn, by rw [hw1, uH_ne (by decide), uH_at], by rw [hw1, uH_at], by rw [hw1, uH_ne (by decide), uH_ne (by decide)]; exact h3, hBW⟩
    obtain ⟨w', i1, i2, i3⟩ := l57 d hN hz n ex' b2 w1 lv (by omega) hM (fun u hu => by rw [hb2]; exact (if_pos (List.mem_append_left _ hu)).trans (hb u hu)) hc l0 l1
    have F1 : Fr ksMa w w1 := by rw [hw1]; exact ((Fr.rf ksMa w).up (by decide)).up (by decide)
    refine ⟨w', F1.tr i1, i2, Gx.run 40 Cs.tt (fun X _ => ?_) (Gx.run (pc := 33) (z := (lv, [], hp w1 N)) 5 Cs.tt (fun X _ => ?_) i3)⟩
    · obtain ⟨m, hm⟩ : ∃ m : Int, m = ((vs ++ ex').length : Int) := ⟨_, rfl⟩
      obtain ⟨q, hq⟩ : ∃ q : Int, q = (vs.length : Int) := ⟨_, rfl⟩
      have el : ((vs ++ ex' ++ [v]).length : Int) = m + 1 := by rw [hm]; simp only [List.length_append, List.length_singleton]; omega
      rw [el] at h1
      rw [← hm] at hlast hw1
      rw [← hq] at l1
      rw [hw1]
      have mq : q ≤ m := by
        rw [hm, hq, List.length_append]
        omega
      have q0 : 0 ≤ q := by omega
      have m9 : m < 26 := by
        rw [hm, List.length_append]
        omega
      have b1 : ¬ m + 1 ≤ q := by omega
      have v0 := hv.1
      have v1 := hv.2
      have e9 : m + 1 - 1 = m := by omega
      simp (disch := first | (refine c1_id ?_; assumption) | (refine c1_st rfl ?_; repeat (first | assumption | refine c1_st rfl ?_)) | omega) [nx_l, nx_r, nx_n, x_st, x_push, x_bin, x_div, x_un, x_dup, x_pop, x_dup2, x_goto, x_ifeq, x_ifne, x_iflt, x_ifge, x_ifgt, x_ifle, x_iceq, x_icne, x_iclt, x_icge, x_icgt, x_icle, x_ifnull, x_ifnonnull, x_ldi, x_lda, x_sti, x_sta, x_iinc, x_gf, x_pf, x_ald, x_ast, x_aln, x_len, x_cl_, x_cv, x_cs, x_rc, x_r0, x_isT, x_oi, x_rv, x_ri, x_ra, Value.category, t57_0, t57_1, t57_4, t57_5, t57_8, t57_9, t57_10, t57_13, t57_14, t57_15, t57_18, t57_19, t57_22, t57_23, t57_26, t57_27, t57_30, t57_31, t57_32, t57_33, t57_36, lk_s, hp_get, hp_set, uH_at, uH_ne, uH_upd, uH_swap, iZ_add, iZ_sub, iZ_mul, iZ_neg, iZ_lt, iZ_le, iZ_eq, iZ_div, iZ_of, ix_Z, gZ_map, gZ_mapI, gZ_map', le_0, le_s, sZ_map, sZ_len, bZ_0, bZ_inj, bZ_t, bZ_f, nr_i, nr_0, nr_1, nr_b, ft_i, ft_b, ft_0, ft_1, zl_0, zl_1, l0, l1, h1, h2, h3, b1, hlast, e9, MO, -List.filter_filter, -List.getElem?_map, -List.getD_eq_getElem?_getD]
    · simp (disch := first | (refine c1_id ?_; assumption) | (refine c1_st rfl ?_; repeat (first | assumption | refine c1_st rfl ?_)) | omega) [nx_l, nx_r, nx_n, x_st, x_push, x_bin, x_div, x_un, x_dup, x_pop, x_dup2, x_goto, x_ifeq, x_ifne, x_iflt, x_ifge, x_ifgt, x_ifle, x_iceq, x_icne, x_iclt, x_icge, x_icgt, x_icle, x_ifnull, x_ifnonnull, x_ldi, x_lda, x_sti, x_sta, x_iinc, x_gf, x_pf, x_ald, x_ast, x_aln, x_len, x_cl_, x_cv, x_cs, x_rc, x_r0, x_isT, x_oi, x_rv, x_ri, x_ra, Value.category, t57_0, t57_1, t57_4, t57_5, t57_8, t57_9, t57_10, t57_13, t57_14, t57_15, t57_18, t57_19, t57_22, t57_23, t57_26, t57_27, t57_30, t57_31, t57_32, t57_33, t57_36, lk_s, hp_get, hp_set, uH_at, uH_ne, uH_upd, uH_swap, iZ_add, iZ_sub, iZ_mul, iZ_neg, iZ_lt, iZ_le, iZ_eq, iZ_div, iZ_of, ix_Z, gZ_map, gZ_mapI, gZ_map', le_0, le_s, sZ_map, sZ_len, bZ_0, bZ_inj, bZ_t, bZ_f, nr_i, nr_0, nr_1, nr_b, ft_i, ft_b, ft_0, ft_1, zl_0, zl_1, -List.filter_filter, -List.getElem?_map, -List.getD_eq_getElem?_getD]
theorem m57 (d : Nat) (hN : 53 ≤ N) {ex : List Int} {b' : Int → List Int} (h : MW w E (vs ++ ex) b') (hz : ∀ u, 0 ≤ u → u < 26 → ¬ u ∈ vs → b u = []) (hb : ∀ u, u ∈ vs → b' u = b u) : ∃ w', Fr ksMa w w' ∧ MW w' E vs b ∧ Xc (d + 1) 57 [.ref 27, .int (iZ (vs.length : Int))] (hp w N) (none, hp w' N) := by
  have hc : c1 (lv_args 0 [.ref 27, .int (iZ (vs.length : Int))]) := by simp [c1, lv_args, Value.category]
  obtain ⟨w', i1, i2, i3⟩ := l57 (N := N) d hN hz ex.length ex b' w (lv_args 0 [.ref 27, .int (iZ (vs.length : Int))]) rfl h hb hc rfl rfl
  exact ⟨w', i1, i2, Xc.of rfl (by simp [lg_sl, Value.category]) i3 (MW.le i1 h i2)⟩
theorem LA.fm {C : List (Int × List Int)} (h : LA w 7 C) (hN : 53 ≤ N) : ∃ (S En B : List Int) (o : Int), fo w 7 S En B C.length (flt C).length o ∧ fN N 7 S En B ∧ FW C S En B ∧ gV C ∧ (flt C).length ≤ S.length ∧ C.length ≤ En.length ∧ C.length ≤ B.length ∧ (flt C).length ≤ 40 ∧ C.length ≤ 6 := by
  obtain ⟨S, En, B, o, f1, f2, f3, f4, f5, f6, f7, f8⟩ := h
  exact ⟨S, En, B, o, f1, ⟨by omega, by omega, by omega, by omega⟩, f5, f6, by omega, by omega, by omega, f7, f8⟩
/-- a variable is bound -/
theorem m56 (d : Nat) (hN : 53 ≤ N) (hL : LA w 7 E) (h : MW w E vs b) (v : Int) (v0 : 0 ≤ v) (v1 : v < 26) (q : Nat) (hq : q < (flt E).length) (hT : Ts 1 (tm (flt E) q)) :
    (v ∈ vs → Xc (d + 2) 56 [.ref 27, .int (iZ v), .ref 10, .int (iZ (q : Int)), .int (iZ ((q : Int) + (tm (flt E) q).length))] (hp w N) (some (.int (iZ (bZ (decide (b v = tm (flt E) q))))), hp w N)) ∧
    (¬ v ∈ vs → b v = [] ∧ ∃ w', Fr ksMa w w' ∧ MW w' E (vs ++ [v]) (bU b v (tm (flt E) q)) ∧ Xc (d + 2) 56 [.ref 27, .int (iZ v), .ref 10, .int (iZ (q : Int)), .int (iZ ((q : Int) + (tm (flt E) q).length))] (hp w N) (some (.int (iZ 1)), hp w' N)) := by
  obtain ⟨S, En, B, o, f1, f2, f3, f4, f5, f6, f7, f8, f9⟩ := hL.fm hN
  obtain ⟨Tm, Bn, h1, h2, h3, h4⟩ := h
  have hM : MW w E vs b := ⟨Tm, Bn, h1, h2, h3, h4⟩
  have h4' := h4
  obtain ⟨k1, k2, k3, k4, k5, k6⟩ := h4'
  have l26 := in26 k3 k4
  have tl := tm_len_le (P := flt E) (i := q) (by omega)
  obtain ⟨to_, hto⟩ : ∃ to_ : Int, to_ = (q : Int) + (tm (flt E) q).length := ⟨_, rfl⟩
  obtain ⟨n, hn⟩ : ∃ n : Int, n = ((tm (flt E) q).length : Int) := ⟨_, rfl⟩
  have e1 : to_ - (q : Int) = n := by omega
  have n0 : 0 ≤ n := by omega
  have n9 : n ≤ 40 := by omega
  refine ⟨fun hv => ?_, fun hv => ?_⟩
  · obtain ⟨t0, t1, t2, t3⟩ := (k6 v v0 v1).2 hv
    have X := m19 (N := N) d (gZ Tm v) (q : Int) n f1 f2 (f3.rng f4) (by omega) t0 (by omega) n0 (by omega) (by omega) (by omega) (by omega)
    have es := same_tm f3 f4 (p := (gZ Tm v).toNat) hq hT
    rw [show (((gZ Tm v).toNat : Nat) : Int) = gZ Tm v by omega, t2, ← hn] at es
    rw [show n.toNat = (tm (flt E) q).length by omega, es] at X
    have X : Xc (d + 1) 19 [.ref 10, .int (iZ (gZ Tm v)), .int (iZ (q : Int)), .int (iZ n)] (hp w N) (some (.int (iZ (bZ (decide (b v = tm (flt E) q))))), hp w N) := X
    rw [← hto]
    generalize decide (b v = tm (flt E) q) = bb at X ⊢
    refine Xc.of rfl (by simp [lg_sl, Value.category]) ?_ (x_le.rf)
    have hc : c1 (lv_args 0 [.ref 27, .int (iZ v), .ref 10, .int (iZ (q : Int)), .int (iZ to_)]) := by simp [c1, lv_args, Value.category]
    have l0 : x_lk (lv_args 0 [.ref 27, .int (iZ v), .ref 10, .int (iZ (q : Int)), .int (iZ to_)]) 0 = some (.ref 27) := rfl
    have l1 : x_lk (lv_args 0 [.ref 27, .int (iZ v), .ref 10, .int (iZ (q : Int)), .int (iZ to_)]) 1 = some (.int (iZ v)) := rfl
    have l2 : x_lk (lv_args 0 [.ref 27, .int (iZ v), .ref 10, .int (iZ (q : Int)), .int (iZ to_)]) 2 = some (.ref 10) := rfl
    have l3 : x_lk (lv_args 0 [.ref 27, .int (iZ v), .ref 10, .int (iZ (q : Int)), .int (iZ to_)]) 3 = some (.int (iZ (q : Int))) := rfl
    have l4 : x_lk (lv_args 0 [.ref 27, .int (iZ v), .ref 10, .int (iZ (q : Int)), .int (iZ to_)]) 4 = some (.int (iZ to_)) := rfl
    generalize lv_args 0 [.ref 27, .int (iZ v), .ref 10, .int (iZ (q : Int)), .int (iZ to_)] = lv at hc l0 l1 l2 l3 l4
    obtain ⟨qq, hqq⟩ : ∃ qq : Int, qq = (q : Int) := ⟨_, rfl⟩
    rw [← hqq] at X l3 e1
    obtain ⟨tv, htv⟩ : ∃ tv : Int, tv = gZ Tm v := ⟨_, rfl⟩
    rw [← htv] at X t0 t1
    have htv' : gZ Tm v = tv := htv.symm
    have c1_ : ¬ tv < 0 := by omega
    have c2_ : tv < 40 := by omega
    have f7k := f1.1
    refine Gx.fin 40 X (fun K mm => ?_)
    cases bb with
    | true =>
      rw [bZ_t] at mm ⊢
      simp (disch := first | (refine c1_id ?_; assumption) | (refine c1_st rfl ?_; repeat (first | assumption | refine c1_st rfl ?_)) | omega) [nx_l, nx_r, nx_n, x_st, x_push, x_bin, x_div, x_un, x_dup, x_pop, x_dup2, x_goto, x_ifeq, x_ifne, x_iflt, x_ifge, x_ifgt, x_ifle, x_iceq, x_icne, x_iclt, x_icge, x_icgt, x_icle, x_ifnull, x_ifnonnull, x_ldi, x_lda, x_sti, x_sta, x_iinc, x_gf, x_pf, x_ald, x_ast, x_aln, x_len, x_cl_, x_cv, x_cs, x_rc, x_r0, x_isT, x_oi, x_rv, x_ri, x_ra, Value.category, t56_0, t56_1, t56_3, t56_6, t56_7, t56_8, t56_9, t56_12, t56_13, t56_14, t56_17, t56_18, t56_19, t56_22, t56_23, t56_24, t56_25, t56_27, t56_28, t56_29, t56_32, t56_33, t56_34, t56_37, t56_39, t56_42, t56_43, t56_44, t56_45, t56_48, t56_49, t56_50, t56_51, t56_52, t56_55, t56_56, t56_59, t56_60, t56_61, t56_62, t56_63, t56_66, t56_67, t56_68, t56_71, t56_72, lk_s, hp_get, hp_set, uH_at, uH_ne, uH_upd, uH_swap, iZ_add, iZ_sub, iZ_mul, iZ_neg, iZ_lt, iZ_le, iZ_eq, iZ_div, iZ_of, ix_Z, gZ_map, gZ_mapI, gZ_map', le_0, le_s, sZ_map, sZ_len, bZ_0, bZ_inj, bZ_t, bZ_f, nr_i, nr_0, nr_1, nr_b, ft_i, ft_b, ft_0, ft_1, zl_0, zl_1, zl_26, l0, l1, l2, l3, l4, h1, h2, h3, htv', v1, c1_, e1, f7k, mm, MO, -List.filter_filter, -List.getElem?_map, -List.getD_eq_getElem?_getD]
    | false =>
      rw [bZ_f] at mm ⊢
      simp (disch := first | (refine c1_id ?_; assumption) | (refine c1_st rfl ?_; repeat (first | assumption | refine c1_st rfl ?_)) | omega) [nx_l, nx_r, nx_n, x_st, x_push, x_bin, x_div, x_un, x_dup, x_pop, x_dup2, x_goto, x_ifeq, x_ifne, x_iflt, x_ifge, x_ifgt, x_ifle, x_iceq, x_icne, x_iclt, x_icge, x_icgt, x_icle, x_ifnull, x_ifnonnull, x_ldi, x_lda, x_sti, x_sta, x_iinc, x_gf, x_pf, x_ald, x_ast, x_aln, x_len, x_cl_, x_cv, x_cs, x_rc, x_r0, x_isT, x_oi, x_rv, x_ri, x_ra, Value.category, t56_0, t56_1, t56_3, t56_6, t56_7, t56_8, t56_9, t56_12, t56_13, t56_14, t56_17, t56_18, t56_19, t56_22, t56_23, t56_24, t56_25, t56_27, t56_28, t56_29, t56_32, t56_33, t56_34, t56_37, t56_39, t56_42, t56_43, t56_44, t56_45, t56_48, t56_49, t56_50, t56_51, t56_52, t56_55, t56_56, t56_59, t56_60, t56_61, t56_62, t56_63, t56_66, t56_67, t56_68, t56_71, t56_72, lk_s, hp_get, hp_set, uH_at, uH_ne, uH_upd, uH_swap, iZ_add, iZ_sub, iZ_mul, iZ_neg, iZ_lt, iZ_le, iZ_eq, iZ_div, iZ_of, ix_Z, gZ_map, gZ_mapI, gZ_map', le_0, le_s, sZ_map, sZ_len, bZ_0, bZ_inj, bZ_t, bZ_f, nr_i, nr_0, nr_1, nr_b, ft_i, ft_b, ft_0, ft_1, zl_0, zl_1, zl_26, l0, l1, l2, l3, l4, h1, h2, h3, htv', v1, c1_, e1, f7k, mm, MO, -List.filter_filter, -List.getElem?_map, -List.getD_eq_getElem?_getD]
  · obtain ⟨t0, t1⟩ := (k6 v v0 v1).1 hv
    obtain ⟨a1, a2⟩ := h4.add v0 v1 hv hq hT
    refine ⟨t1, uH (uH (uH w 24 (MO ((vs.length : Int) + 1))) 25 (cI 0 (sZ Tm v q))) 26 (cI 0 (sZ Bn vs.length v)), (((Fr.rf ksMa w).up (by decide)).up (by decide)).up (by decide), ⟨_, _, ?_, ?_, uH_at _ _ _, a2⟩, ?_⟩
    · rw [uH_ne (by decide), uH_ne (by decide), uH_at, List.length_append, List.length_singleton]
      rfl
    · rw [uH_ne (by decide), uH_at]
    · rw [← hto]
      refine Xc.of rfl (by simp [lg_sl, Value.category]) ?_ (hp_le (Nat.le_refl _) (fun j _ => by (simp only [uH]; repeat' split) <;> simp_all [x_c1, sZ_len]))
      have hc : c1 (lv_args 0 [.ref 27, .int (iZ v), .ref 10, .int (iZ (q : Int)), .int (iZ to_)]) := by simp [c1, lv_args, Value.category]
      have l0 : x_lk (lv_args 0 [.ref 27, .int (iZ v), .ref 10, .int (iZ (q : Int)), .int (iZ to_)]) 0 = some (.ref 27) := rfl
      have l1 : x_lk (lv_args 0 [.ref 27, .int (iZ v), .ref 10, .int (iZ (q : Int)), .int (iZ to_)]) 1 = some (.int (iZ v)) := rfl
      have l2 : x_lk (lv_args 0 [.ref 27, .int (iZ v), .ref 10, .int (iZ (q : Int)), .int (iZ to_)]) 2 = some (.ref 10) := rfl
      have l3 : x_lk (lv_args 0 [.ref 27, .int (iZ v), .ref 10, .int (iZ (q : Int)), .int (iZ to_)]) 3 = some (.int (iZ (q : Int))) := rfl
      have l4 : x_lk (lv_args 0 [.ref 27, .int (iZ v), .ref 10, .int (iZ (q : Int)), .int (iZ to_)]) 4 = some (.int (iZ to_)) := rfl
      generalize lv_args 0 [.ref 27, .int (iZ v), .ref 10, .int (iZ (q : Int)), .int (iZ to_)] = lv at hc l0 l1 l2 l3 l4
      obtain ⟨qq, hqq⟩ : ∃ qq : Int, qq = (q : Int) := ⟨_, rfl⟩
      rw [← hqq] at l3 ⊢
      obtain ⟨m, hm⟩ : ∃ m : Int, m = (vs.length : Int) := ⟨_, rfl⟩
      rw [← hm] at h1 ⊢
      have m0 : 0 ≤ m := by omega
      have m9 : m < 26 := by omega
      refine Gx.fin 60 Cs.tt (fun K _ => ?_)
      simp (disch := first | (refine c1_id ?_; assumption) | (refine c1_st rfl ?_; repeat (first | assumption | refine c1_st rfl ?_)) | omega) [nx_l, nx_r, nx_n, x_st, x_push, x_bin, x_div, x_un, x_dup, x_pop, x_dup2, x_goto, x_ifeq, x_ifne, x_iflt, x_ifge, x_ifgt, x_ifle, x_iceq, x_icne, x_iclt, x_icge, x_icgt, x_icle, x_ifnull, x_ifnonnull, x_ldi, x_lda, x_sti, x_sta, x_iinc, x_gf, x_pf, x_ald, x_ast, x_aln, x_len, x_cl_, x_cv, x_cs, x_rc, x_r0, x_isT, x_oi, x_rv, x_ri, x_ra, Value.category, t56_0, t56_1, t56_3, t56_6, t56_7, t56_8, t56_9, t56_12, t56_13, t56_14, t56_17, t56_18, t56_19, t56_22, t56_23, t56_24, t56_25, t56_27, t56_28, t56_29, t56_32, t56_33, t56_34, t56_37, t56_39, t56_42, t56_43, t56_44, t56_45, t56_48, t56_49, t56_50, t56_51, t56_52, t56_55, t56_56, t56_59, t56_60, t56_61, t56_62, t56_63, t56_66, t56_67, t56_68, t56_71, t56_72, lk_s, hp_get, hp_set, uH_at, uH_ne, uH_upd, uH_swap, iZ_add, iZ_sub, iZ_mul, iZ_neg, iZ_lt, iZ_le, iZ_eq, iZ_div, iZ_of, ix_Z, gZ_map, gZ_mapI, gZ_map', le_0, le_s, sZ_map, sZ_len, bZ_0, bZ_inj, bZ_t, bZ_f, nr_i, nr_0, nr_1, nr_b, ft_i, ft_b, ft_0, ft_1, zl_0, zl_1, zl_26, l0, l1, l2, l3, l4, h1, h2, h3, t0, v1, m9, MO, -List.filter_filter, -List.getElem?_map, -List.getD_eq_getElem?_getD]
end MA
