/-! the class: a character is written; the draft is taken -/
theorem f27_0 : x_fetch q_k27 0 = x_lda 1 0 := rfl
theorem t27_0 (C : xF) (s n : Nat) (z : xS) : x_to q_k27 C s (n + 1) 0 z = x_nx q_k27 C s n ((x_lda 1 0) C z) := x_to_at f27_0 C s n z
theorem f27_1 : x_fetch q_k27 1 = x_gf 4 3 2 := rfl
theorem t27_1 (C : xF) (s n : Nat) (z : xS) : x_to q_k27 C s (n + 1) 1 z = x_nx q_k27 C s n ((x_gf 4 3 2) C z) := x_to_at f27_1 C s n z
theorem f27_4 : x_fetch q_k27 4 = x_st (x_push 6 (.int (60))) := rfl
theorem t27_4 (C : xF) (s n : Nat) (z : xS) : x_to q_k27 C s (n + 1) 4 z = x_nx q_k27 C s n ((x_st (x_push 6 (.int (60)))) C z) := x_to_at f27_4 C s n z
theorem f27_6 : x_fetch q_k27 6 = x_st (x_icge 21 9) := rfl
theorem t27_6 (C : xF) (s n : Nat) (z : xS) : x_to q_k27 C s (n + 1) 6 z = x_nx q_k27 C s n ((x_st (x_icge 21 9)) C z) := x_to_at f27_6 C s n z
theorem f27_9 : x_fetch q_k27 9 = x_ldi 10 1 := rfl
theorem t27_9 (C : xF) (s n : Nat) (z : xS) : x_to q_k27 C s (n + 1) 9 z = x_nx q_k27 C s n ((x_ldi 10 1) C z) := x_to_at f27_9 C s n z
theorem f27_10 : x_fetch q_k27 10 = x_st (x_push 12 (.int (32))) := rfl
theorem t27_10 (C : xF) (s n : Nat) (z : xS) : x_to q_k27 C s (n + 1) 10 z = x_nx q_k27 C s n ((x_st (x_push 12 (.int (32)))) C z) := x_to_at f27_10 C s n z
theorem f27_12 : x_fetch q_k27 12 = x_st (x_iclt 21 15) := rfl
theorem t27_12 (C : xF) (s n : Nat) (z : xS) : x_to q_k27 C s (n + 1) 12 z = x_nx q_k27 C s n ((x_st (x_iclt 21 15)) C z) := x_to_at f27_12 C s n z
theorem f27_15 : x_fetch q_k27 15 = x_ldi 16 1 := rfl
theorem t27_15 (C : xF) (s n : Nat) (z : xS) : x_to q_k27 C s (n + 1) 15 z = x_nx q_k27 C s n ((x_ldi 16 1) C z) := x_to_at f27_15 C s n z
theorem f27_16 : x_fetch q_k27 16 = x_st (x_push 18 (.int (126))) := rfl
theorem t27_16 (C : xF) (s n : Nat) (z : xS) : x_to q_k27 C s (n + 1) 16 z = x_nx q_k27 C s n ((x_st (x_push 18 (.int (126)))) C z) := x_to_at f27_16 C s n z
theorem f27_18 : x_fetch q_k27 18 = x_st (x_icle 23 21) := rfl
theorem t27_18 (C : xF) (s n : Nat) (z : xS) : x_to q_k27 C s (n + 1) 18 z = x_nx q_k27 C s n ((x_st (x_icle 23 21)) C z) := x_to_at f27_18 C s n z
theorem f27_21 : x_fetch q_k27 21 = x_st (x_push 22 (.int (0))) := rfl
theorem t27_21 (C : xF) (s n : Nat) (z : xS) : x_to q_k27 C s (n + 1) 21 z = x_nx q_k27 C s n ((x_st (x_push 22 (.int (0)))) C z) := x_to_at f27_21 C s n z
theorem f27_22 : x_fetch q_k27 22 = x_ri (.boolean) := rfl
theorem t27_22 (C : xF) (s n : Nat) (z : xS) : x_to q_k27 C s (n + 1) 22 z = x_nx q_k27 C s n ((x_ri (.boolean)) C z) := x_to_at f27_22 C s n z
theorem f27_23 : x_fetch q_k27 23 = x_lda 24 0 := rfl
theorem t27_23 (C : xF) (s n : Nat) (z : xS) : x_to q_k27 C s (n + 1) 23 z = x_nx q_k27 C s n ((x_lda 24 0) C z) := x_to_at f27_23 C s n z
theorem f27_24 : x_fetch q_k27 24 = x_gf 27 3 0 := rfl
theorem t27_24 (C : xF) (s n : Nat) (z : xS) : x_to q_k27 C s (n + 1) 24 z = x_nx q_k27 C s n ((x_gf 27 3 0) C z) := x_to_at f27_24 C s n z
theorem f27_27 : x_fetch q_k27 27 = x_lda 28 0 := rfl
theorem t27_27 (C : xF) (s n : Nat) (z : xS) : x_to q_k27 C s (n + 1) 27 z = x_nx q_k27 C s n ((x_lda 28 0) C z) := x_to_at f27_27 C s n z
theorem f27_28 : x_fetch q_k27 28 = x_gf 31 3 2 := rfl
theorem t27_28 (C : xF) (s n : Nat) (z : xS) : x_to q_k27 C s (n + 1) 28 z = x_nx q_k27 C s n ((x_gf 31 3 2) C z) := x_to_at f27_28 C s n z
theorem f27_31 : x_fetch q_k27 31 = x_ldi 32 1 := rfl
theorem t27_31 (C : xF) (s n : Nat) (z : xS) : x_to q_k27 C s (n + 1) 31 z = x_nx q_k27 C s n ((x_ldi 32 1) C z) := x_to_at f27_31 C s n z
theorem f27_32 : x_fetch q_k27 32 = x_ast 33 2 (fun x => vp_nar .char x) := rfl
theorem t27_32 (C : xF) (s n : Nat) (z : xS) : x_to q_k27 C s (n + 1) 32 z = x_nx q_k27 C s n ((x_ast 33 2 (fun x => vp_nar .char x)) C z) := x_to_at f27_32 C s n z
theorem f27_33 : x_fetch q_k27 33 = x_lda 34 0 := rfl
theorem t27_33 (C : xF) (s n : Nat) (z : xS) : x_to q_k27 C s (n + 1) 33 z = x_nx q_k27 C s n ((x_lda 34 0) C z) := x_to_at f27_33 C s n z
theorem f27_34 : x_fetch q_k27 34 = x_st (x_dup 35) := rfl
theorem t27_34 (C : xF) (s n : Nat) (z : xS) : x_to q_k27 C s (n + 1) 34 z = x_nx q_k27 C s n ((x_st (x_dup 35)) C z) := x_to_at f27_34 C s n z
theorem f27_35 : x_fetch q_k27 35 = x_gf 38 3 2 := rfl
theorem t27_35 (C : xF) (s n : Nat) (z : xS) : x_to q_k27 C s (n + 1) 35 z = x_nx q_k27 C s n ((x_gf 38 3 2) C z) := x_to_at f27_35 C s n z
theorem f27_38 : x_fetch q_k27 38 = x_st (x_push 39 (.int (1))) := rfl
theorem t27_38 (C : xF) (s n : Nat) (z : xS) : x_to q_k27 C s (n + 1) 38 z = x_nx q_k27 C s n ((x_st (x_push 39 (.int (1)))) C z) := x_to_at f27_38 C s n z
theorem f27_39 : x_fetch q_k27 39 = x_st (x_bin 40 (fun a b => a + b)) := rfl
theorem t27_39 (C : xF) (s n : Nat) (z : xS) : x_to q_k27 C s (n + 1) 39 z = x_nx q_k27 C s n ((x_st (x_bin 40 (fun a b => a + b))) C z) := x_to_at f27_39 C s n z
theorem f27_40 : x_fetch q_k27 40 = x_pf 43 3 2 (.int) := rfl
theorem t27_40 (C : xF) (s n : Nat) (z : xS) : x_to q_k27 C s (n + 1) 40 z = x_nx q_k27 C s n ((x_pf 43 3 2 (.int)) C z) := x_to_at f27_40 C s n z
theorem f27_43 : x_fetch q_k27 43 = x_st (x_push 44 (.int (1))) := rfl
theorem t27_43 (C : xF) (s n : Nat) (z : xS) : x_to q_k27 C s (n + 1) 43 z = x_nx q_k27 C s n ((x_st (x_push 44 (.int (1)))) C z) := x_to_at f27_43 C s n z
theorem f27_44 : x_fetch q_k27 44 = x_ri (.boolean) := rfl
theorem t27_44 (C : xF) (s n : Nat) (z : xS) : x_to q_k27 C s (n + 1) 44 z = x_nx q_k27 C s n ((x_ri (.boolean)) C z) := x_to_at f27_44 C s n z
theorem f68_0 : x_fetch q_k68 0 = x_lda 1 0 := rfl
theorem t68_0 (C : xF) (s n : Nat) (z : xS) : x_to q_k68 C s (n + 1) 0 z = x_nx q_k68 C s n ((x_lda 1 0) C z) := x_to_at f68_0 C s n z
theorem f68_1 : x_fetch q_k68 1 = x_gf 4 0 0 := rfl
theorem t68_1 (C : xF) (s n : Nat) (z : xS) : x_to q_k68 C s (n + 1) 1 z = x_nx q_k68 C s n ((x_gf 4 0 0) C z) := x_to_at f68_1 C s n z
theorem f68_4 : x_fetch q_k68 4 = x_ldi 5 1 := rfl
theorem t68_4 (C : xF) (s n : Nat) (z : xS) : x_to q_k68 C s (n + 1) 4 z = x_nx q_k68 C s n ((x_ldi 5 1) C z) := x_to_at f68_4 C s n z
theorem f68_5 : x_fetch q_k68 5 = x_cv 8 27 2 3 := rfl
theorem t68_5 (C : xF) (s n : Nat) (z : xS) : x_to q_k68 C s (n + 1) 5 z = x_nx q_k68 C s n ((x_cv 8 27 2 3) C z) := x_to_at f68_5 C s n z
theorem f68_8 : x_fetch q_k68 8 = x_ri (.boolean) := rfl
theorem t68_8 (C : xF) (s n : Nat) (z : xS) : x_to q_k68 C s (n + 1) 8 z = x_nx q_k68 C s n ((x_ri (.boolean)) C z) := x_to_at f68_8 C s n z
theorem f82_0 : x_fetch q_k82 0 = x_lda 1 0 := rfl
theorem t82_0 (C : xF) (s n : Nat) (z : xS) : x_to q_k82 C s (n + 1) 0 z = x_nx q_k82 C s n ((x_lda 1 0) C z) := x_to_at f82_0 C s n z
theorem f82_1 : x_fetch q_k82 1 = x_lda 2 0 := rfl
theorem t82_1 (C : xF) (s n : Nat) (z : xS) : x_to q_k82 C s (n + 1) 1 z = x_nx q_k82 C s n ((x_lda 2 0) C z) := x_to_at f82_1 C s n z
theorem f82_2 : x_fetch q_k82 2 = x_gf 5 0 0 := rfl
theorem t82_2 (C : xF) (s n : Nat) (z : xS) : x_to q_k82 C s (n + 1) 2 z = x_nx q_k82 C s n ((x_gf 5 0 0) C z) := x_to_at f82_2 C s n z
theorem f82_5 : x_fetch q_k82 5 = x_gf 8 3 2 := rfl
theorem t82_5 (C : xF) (s n : Nat) (z : xS) : x_to q_k82 C s (n + 1) 5 z = x_nx q_k82 C s n ((x_gf 8 3 2) C z) := x_to_at f82_5 C s n z
theorem f82_8 : x_fetch q_k82 8 = x_st (x_ifle 15 11) := rfl
theorem t82_8 (C : xF) (s n : Nat) (z : xS) : x_to q_k82 C s (n + 1) 8 z = x_nx q_k82 C s n ((x_st (x_ifle 15 11)) C z) := x_to_at f82_8 C s n z
theorem f82_11 : x_fetch q_k82 11 = x_st (x_push 12 (.int (1))) := rfl
theorem t82_11 (C : xF) (s n : Nat) (z : xS) : x_to q_k82 C s (n + 1) 11 z = x_nx q_k82 C s n ((x_st (x_push 12 (.int (1)))) C z) := x_to_at f82_11 C s n z
theorem f82_12 : x_fetch q_k82 12 = x_st (x_goto 16) := rfl
theorem t82_12 (C : xF) (s n : Nat) (z : xS) : x_to q_k82 C s (n + 1) 12 z = x_nx q_k82 C s n ((x_st (x_goto 16)) C z) := x_to_at f82_12 C s n z
theorem f82_15 : x_fetch q_k82 15 = x_st (x_push 16 (.int (0))) := rfl
theorem t82_15 (C : xF) (s n : Nat) (z : xS) : x_to q_k82 C s (n + 1) 15 z = x_nx q_k82 C s n ((x_st (x_push 16 (.int (0)))) C z) := x_to_at f82_15 C s n z
theorem f82_16 : x_fetch q_k82 16 = x_pf 19 0 5 (.boolean) := rfl
theorem t82_16 (C : xF) (s n : Nat) (z : xS) : x_to q_k82 C s (n + 1) 16 z = x_nx q_k82 C s n ((x_pf 19 0 5 (.boolean)) C z) := x_to_at f82_16 C s n z
theorem f82_19 : x_fetch q_k82 19 = x_lda 20 0 := rfl
theorem t82_19 (C : xF) (s n : Nat) (z : xS) : x_to q_k82 C s (n + 1) 19 z = x_nx q_k82 C s n ((x_lda 20 0) C z) := x_to_at f82_19 C s n z
theorem f82_20 : x_fetch q_k82 20 = x_gf 23 0 0 := rfl
theorem t82_20 (C : xF) (s n : Nat) (z : xS) : x_to q_k82 C s (n + 1) 20 z = x_nx q_k82 C s n ((x_gf 23 0 0) C z) := x_to_at f82_20 C s n z
theorem f82_23 : x_fetch q_k82 23 = x_lda 24 0 := rfl
theorem t82_23 (C : xF) (s n : Nat) (z : xS) : x_to q_k82 C s (n + 1) 23 z = x_nx q_k82 C s n ((x_lda 24 0) C z) := x_to_at f82_23 C s n z
theorem f82_24 : x_fetch q_k82 24 = x_gf 27 0 4 := rfl
theorem t82_24 (C : xF) (s n : Nat) (z : xS) : x_to q_k82 C s (n + 1) 24 z = x_nx q_k82 C s n ((x_gf 27 0 4) C z) := x_to_at f82_24 C s n z
theorem f82_27 : x_fetch q_k82 27 = x_cv 30 28 2 3 := rfl
theorem t82_27 (C : xF) (s n : Nat) (z : xS) : x_to q_k82 C s (n + 1) 27 z = x_nx q_k82 C s n ((x_cv 30 28 2 3) C z) := x_to_at f82_27 C s n z
theorem f82_30 : x_fetch q_k82 30 = x_st (x_ifne 41 33) := rfl
theorem t82_30 (C : xF) (s n : Nat) (z : xS) : x_to q_k82 C s (n + 1) 30 z = x_nx q_k82 C s n ((x_st (x_ifne 41 33)) C z) := x_to_at f82_30 C s n z
theorem f82_33 : x_fetch q_k82 33 = x_lda 34 0 := rfl
theorem t82_33 (C : xF) (s n : Nat) (z : xS) : x_to q_k82 C s (n + 1) 33 z = x_nx q_k82 C s n ((x_lda 34 0) C z) := x_to_at f82_33 C s n z
theorem f82_34 : x_fetch q_k82 34 = x_st (x_push 35 (.int (-1))) := rfl
theorem t82_34 (C : xF) (s n : Nat) (z : xS) : x_to q_k82 C s (n + 1) 34 z = x_nx q_k82 C s n ((x_st (x_push 35 (.int (-1)))) C z) := x_to_at f82_34 C s n z
theorem f82_35 : x_fetch q_k82 35 = x_pf 38 0 6 (.int) := rfl
theorem t82_35 (C : xF) (s n : Nat) (z : xS) : x_to q_k82 C s (n + 1) 35 z = x_nx q_k82 C s n ((x_pf 38 0 6 (.int)) C z) := x_to_at f82_35 C s n z
theorem f82_38 : x_fetch q_k82 38 = x_st (x_goto 65) := rfl
theorem t82_38 (C : xF) (s n : Nat) (z : xS) : x_to q_k82 C s (n + 1) 38 z = x_nx q_k82 C s n ((x_st (x_goto 65)) C z) := x_to_at f82_38 C s n z
theorem f82_41 : x_fetch q_k82 41 = x_lda 42 0 := rfl
theorem t82_41 (C : xF) (s n : Nat) (z : xS) : x_to q_k82 C s (n + 1) 41 z = x_nx q_k82 C s n ((x_lda 42 0) C z) := x_to_at f82_41 C s n z
theorem f82_42 : x_fetch q_k82 42 = x_lda 43 0 := rfl
theorem t82_42 (C : xF) (s n : Nat) (z : xS) : x_to q_k82 C s (n + 1) 42 z = x_nx q_k82 C s n ((x_lda 43 0) C z) := x_to_at f82_42 C s n z
theorem f82_43 : x_fetch q_k82 43 = x_gf 46 0 3 := rfl
theorem t82_43 (C : xF) (s n : Nat) (z : xS) : x_to q_k82 C s (n + 1) 43 z = x_nx q_k82 C s n ((x_gf 46 0 3) C z) := x_to_at f82_43 C s n z
theorem f82_46 : x_fetch q_k82 46 = x_lda 47 0 := rfl
theorem t82_46 (C : xF) (s n : Nat) (z : xS) : x_to q_k82 C s (n + 1) 46 z = x_nx q_k82 C s n ((x_lda 47 0) C z) := x_to_at f82_46 C s n z
theorem f82_47 : x_fetch q_k82 47 = x_gf 50 0 4 := rfl
theorem t82_47 (C : xF) (s n : Nat) (z : xS) : x_to q_k82 C s (n + 1) 47 z = x_nx q_k82 C s n ((x_gf 50 0 4) C z) := x_to_at f82_47 C s n z
theorem f82_50 : x_fetch q_k82 50 = x_cv 53 36 2 7 := rfl
theorem t82_50 (C : xF) (s n : Nat) (z : xS) : x_to q_k82 C s (n + 1) 50 z = x_nx q_k82 C s n ((x_cv 53 36 2 7) C z) := x_to_at f82_50 C s n z
theorem f82_53 : x_fetch q_k82 53 = x_st (x_ifeq 60 56) := rfl
theorem t82_53 (C : xF) (s n : Nat) (z : xS) : x_to q_k82 C s (n + 1) 53 z = x_nx q_k82 C s n ((x_st (x_ifeq 60 56)) C z) := x_to_at f82_53 C s n z
theorem f82_56 : x_fetch q_k82 56 = x_st (x_push 57 (.int (0))) := rfl
theorem t82_56 (C : xF) (s n : Nat) (z : xS) : x_to q_k82 C s (n + 1) 56 z = x_nx q_k82 C s n ((x_st (x_push 57 (.int (0)))) C z) := x_to_at f82_56 C s n z
theorem f82_57 : x_fetch q_k82 57 = x_st (x_goto 62) := rfl
theorem t82_57 (C : xF) (s n : Nat) (z : xS) : x_to q_k82 C s (n + 1) 57 z = x_nx q_k82 C s n ((x_st (x_goto 62)) C z) := x_to_at f82_57 C s n z
theorem f82_60 : x_fetch q_k82 60 = x_st (x_push 62 (.int (-2))) := rfl
theorem t82_60 (C : xF) (s n : Nat) (z : xS) : x_to q_k82 C s (n + 1) 60 z = x_nx q_k82 C s n ((x_st (x_push 62 (.int (-2)))) C z) := x_to_at f82_60 C s n z
theorem f82_62 : x_fetch q_k82 62 = x_pf 65 0 6 (.int) := rfl
theorem t82_62 (C : xF) (s n : Nat) (z : xS) : x_to q_k82 C s (n + 1) 62 z = x_nx q_k82 C s n ((x_pf 65 0 6 (.int)) C z) := x_to_at f82_62 C s n z
theorem f82_65 : x_fetch q_k82 65 = x_lda 66 0 := rfl
theorem t82_65 (C : xF) (s n : Nat) (z : xS) : x_to q_k82 C s (n + 1) 65 z = x_nx q_k82 C s n ((x_lda 66 0) C z) := x_to_at f82_65 C s n z
theorem f82_66 : x_fetch q_k82 66 = x_gf 69 0 4 := rfl
theorem t82_66 (C : xF) (s n : Nat) (z : xS) : x_to q_k82 C s (n + 1) 66 z = x_nx q_k82 C s n ((x_gf 69 0 4) C z) := x_to_at f82_66 C s n z
theorem f82_69 : x_fetch q_k82 69 = x_cv 72 21 1 4 := rfl
theorem t82_69 (C : xF) (s n : Nat) (z : xS) : x_to q_k82 C s (n + 1) 69 z = x_nx q_k82 C s n ((x_cv 72 21 1 4) C z) := x_to_at f82_69 C s n z
theorem f82_72 : x_fetch q_k82 72 = x_st (x_pop 73) := rfl
theorem t82_72 (C : xF) (s n : Nat) (z : xS) : x_to q_k82 C s (n + 1) 72 z = x_nx q_k82 C s n ((x_st (x_pop 73)) C z) := x_to_at f82_72 C s n z
theorem f82_73 : x_fetch q_k82 73 = x_lda 74 0 := rfl
theorem t82_73 (C : xF) (s n : Nat) (z : xS) : x_to q_k82 C s (n + 1) 73 z = x_nx q_k82 C s n ((x_lda 74 0) C z) := x_to_at f82_73 C s n z
theorem f82_74 : x_fetch q_k82 74 = x_gf 77 0 0 := rfl
theorem t82_74 (C : xF) (s n : Nat) (z : xS) : x_to q_k82 C s (n + 1) 74 z = x_nx q_k82 C s n ((x_gf 77 0 0) C z) := x_to_at f82_74 C s n z
theorem f82_77 : x_fetch q_k82 77 = x_st (x_push 78 (.int (0))) := rfl
theorem t82_77 (C : xF) (s n : Nat) (z : xS) : x_to q_k82 C s (n + 1) 77 z = x_nx q_k82 C s n ((x_st (x_push 78 (.int (0)))) C z) := x_to_at f82_77 C s n z
theorem f82_78 : x_fetch q_k82 78 = x_pf 81 3 2 (.int) := rfl
theorem t82_78 (C : xF) (s n : Nat) (z : xS) : x_to q_k82 C s (n + 1) 78 z = x_nx q_k82 C s n ((x_pf 81 3 2 (.int)) C z) := x_to_at f82_78 C s n z
theorem f82_81 : x_fetch q_k82 81 = x_rv := rfl
theorem t82_81 (C : xF) (s n : Nat) (z : xS) : x_to q_k82 C s (n + 1) 81 z = x_nx q_k82 C s n ((x_rv) C z) := x_to_at f82_81 C s n z
theorem m21j {w : Nat → xC} {N a : Nat} {S E B : List Int} {c o : Int} (d : Nat) (u : List Int) (hf : fo w a S E B c u.length o) (na : a + 3 < N) (hS : ∀ j : Nat, j < u.length → gZ S j = vc (u.getD j 0)) (hg : ∀ s ∈ u, sgV s) (f9 : u.length ≤ 80) (lS : u.length ≤ S.length) (lS9 : S.length < 10000) : ∃ S' : List Int, S'.length = S.length ∧ (∀ j : Nat, j < u.length → gZ S' j = vc (rn1 (fvs [] u) (u.getD j 0))) ∧ Xc (d + 2) 21 [.ref (a + 3)] (hp w N) (some (.int (iZ ((fvs [] u).length : Int))), hp (uH w (a + 1) (cI 0 S')) N) := by
  obtain ⟨C, hC⟩ : ∃ C : List (Int × List Int), C = [(0, u)] := ⟨_, rfl⟩
  have eC : flt C = u := by rw [hC]; simp [flt]
  have hgC : gV C := by
    rw [hC]
    intro y hy
    rw [List.mem_singleton] at hy
    rw [hy]
    exact ⟨Or.inl rfl, hg⟩
  rw [← eC] at hf hS f9 lS ⊢
  have hf' := hf
  obtain ⟨fa, fs, fe, fg⟩ := hf'
  have hc : c1 (lv_args 0 [.ref (a + 3)]) := by simp [c1, lv_args, Value.category]
  have l0 : x_lk (lv_args 0 [.ref (a + 3)]) 0 = some (.ref (a + 3)) := rfl
  have C1 := c1_st (i := 1) (v := .int (iZ 0)) rfl hc
  have C2 := c1_st (i := 2) (v := .int (iZ 0)) rfl C1
  obtain ⟨S1, lv1, a1, a2, a3, a4, a5, a6⟩ := l21a (C := C) (N := N) d na hgC f9 (flt C) [] 0 S w _ (List.drop_zero) (by omega) (by simp; omega) lS lS9 (fun v hv => by cases hv) (fun v hv => by
    rw [List.take_zero] at hv
    cases hv) (fun j hj => by
    rw [hS j hj]
    unfold mrk
    rw [if_neg (fun z => by cases z.2)]) hf C2 (by rw [lk_s C1, lk_s hc]; exact l0) (by rw [lk_s C1, lk_s hc]; rfl) (by rw [lk_s C1]; rfl)
  obtain ⟨q, hq⟩ : ∃ q, q = fvs [] (flt C) := ⟨_, rfl⟩
  rw [← hq] at a2 a5 ⊢
  have q9 : q.length ≤ 80 := by
    have := fvs_len (flt C) []
    rw [← hq] at this
    simp only [List.length_nil] at this
    omega
  obtain ⟨w1, hw1⟩ : ∃ w1, w1 = uH w (a + 1) (cI 0 S1) := ⟨_, rfl⟩
  rw [← hw1] at a6
  have D2 := c1_st (i := 2) (v := .int (iZ 0)) rfl a3
  obtain ⟨S2, b1, b2, b3⟩ := l21b (C := C) (N := N) d na hgC f9 q (fun v hv h9 => by rw [hq]; exact fvs_mem hv h9) q9 (flt C).length 0 S1 w1 _ (by omega) (by omega) (by omega) (fun j hj => absurd hj (Nat.not_lt_zero _)) (fun j _ hj => a2 j hj) (by rw [hw1]; exact hf.set) D2 (by rw [lk_s a3]; exact a4) (by rw [lk_s a3]; exact a5) (by rw [lk_s a3]; rfl)
  have ew : uH w1 (a + 1) (cI 0 S2) = uH w (a + 1) (cI 0 S2) := by rw [hw1, uH_upd]
  rw [ew] at b3
  refine ⟨S2, by omega, b2, Xc.of rfl (by simp [lg_sl, Value.category]) (Gx.run 20 Cs.tt (fun K _ => ?_) (a6 _ (Gx.run 20 Cs.tt (fun K _ => ?_) b3))) (hp_le (Nat.le_refl _) (fun j _ => ?_))⟩
  · generalize lv_args 0 [.ref (a + 3)] = lv at hc l0
    simp (disch := first | (refine c1_id ?_; assumption) | (refine c1_st rfl ?_; repeat (first | assumption | refine c1_st rfl ?_)) | omega) [nx_l, nx_r, nx_n, x_st, x_push, x_bin, x_div, x_un, x_dup, x_pop, x_dup2, x_goto, x_ifeq, x_ifne, x_iflt, x_ifge, x_ifgt, x_ifle, x_iceq, x_icne, x_iclt, x_icge, x_icgt, x_icle, x_ifnull, x_ifnonnull, x_ldi, x_lda, x_sti, x_sta, x_iinc, x_gf, x_pf, x_ald, x_ast, x_aln, x_len, x_cl_, x_cv, x_cs, x_rc, x_r0, x_isT, x_oi, x_rv, x_ri, x_ra, Value.category, t21_0, t21_1, t21_2, t21_3, t21_4, t21_5, t21_6, t21_9, t21_12, t21_13, t21_16, t21_17, t21_18, t21_21, t21_24, t21_27, t21_28, t21_29, t21_30, t21_33, t21_34, t21_35, t21_36, t21_37, t21_40, t21_43, t21_46, t21_47, t21_48, t21_49, t21_50, t21_53, t21_56, t21_57, t21_60, t21_61, t21_62, t21_65, t21_66, t21_69, t21_70, t21_71, t21_74, t21_75, t21_76, t21_77, t21_78, t21_79, t21_82, t21_83, t21_86, t21_89, t21_90, lk_s, hp_get, hp_set, uH_at, uH_ne, uH_upd, uH_swap, iZ_add, iZ_sub, iZ_mul, iZ_neg, iZ_lt, iZ_le, iZ_eq, iZ_div, iZ_of, ix_Z, gZ_map, gZ_mapI, gZ_map', le_0, le_s, sZ_map, sZ_len, bZ_0, bZ_inj, bZ_t, bZ_f, nr_i, nr_0, nr_1, nr_b, ft_i, ft_b, ft_0, ft_1, zl_0, zl_1, l0, -List.filter_filter, -List.getElem?_map, -List.getD_eq_getElem?_getD]
  · simp (disch := first | (refine c1_id ?_; assumption) | (refine c1_st rfl ?_; repeat (first | assumption | refine c1_st rfl ?_)) | omega) [nx_l, nx_r, nx_n, x_st, x_push, x_bin, x_div, x_un, x_dup, x_pop, x_dup2, x_goto, x_ifeq, x_ifne, x_iflt, x_ifge, x_ifgt, x_ifle, x_iceq, x_icne, x_iclt, x_icge, x_icgt, x_icle, x_ifnull, x_ifnonnull, x_ldi, x_lda, x_sti, x_sta, x_iinc, x_gf, x_pf, x_ald, x_ast, x_aln, x_len, x_cl_, x_cv, x_cs, x_rc, x_r0, x_isT, x_oi, x_rv, x_ri, x_ra, Value.category, t21_0, t21_1, t21_2, t21_3, t21_4, t21_5, t21_6, t21_9, t21_12, t21_13, t21_16, t21_17, t21_18, t21_21, t21_24, t21_27, t21_28, t21_29, t21_30, t21_33, t21_34, t21_35, t21_36, t21_37, t21_40, t21_43, t21_46, t21_47, t21_48, t21_49, t21_50, t21_53, t21_56, t21_57, t21_60, t21_61, t21_62, t21_65, t21_66, t21_69, t21_70, t21_71, t21_74, t21_75, t21_76, t21_77, t21_78, t21_79, t21_82, t21_83, t21_86, t21_89, t21_90, lk_s, hp_get, hp_set, uH_at, uH_ne, uH_upd, uH_swap, iZ_add, iZ_sub, iZ_mul, iZ_neg, iZ_lt, iZ_le, iZ_eq, iZ_div, iZ_of, ix_Z, gZ_map, gZ_mapI, gZ_map', le_0, le_s, sZ_map, sZ_len, bZ_0, bZ_inj, bZ_t, bZ_f, nr_i, nr_0, nr_1, nr_b, ft_i, ft_b, ft_0, ft_1, zl_0, zl_1, a4, -List.filter_filter, -List.getElem?_map, -List.getD_eq_getElem?_getD]
  · by_cases hj : j = a + 1
    · rw [hj, fs, uH_at]
      simp only [x_c1, cI, List.length_map]
      omega
    · rw [uH_ne hj]
      exact Nat.le_refl _
/-- the names of whatever stands in the claim's form -/
theorem JK.names {w : Nat → xC} {N : Nat} (d : Nat) (hN : 53 ≤ N) (h : JK w 7) : ∃ (w' : Nat → xC) (n : Int), Fr [8] w w' ∧ JK w' 7 ∧ (∀ C, LA w 7 C → gC (rnD C) → LA w' 7 (rnD C)) ∧ Xc (d + 2) 21 [.ref 10] (hp w N) (some (.int (iZ n)), hp w' N) := by
  by_cases hLA : ∃ C, LA w 7 C ∧ gC (rnD C)
  · obtain ⟨C, hL, hgc⟩ := hLA
    have hL' := hL
    obtain ⟨S, E, B, o, f1, f2, f3, f4, f5, f6, f7, f8⟩ := hL'
    obtain ⟨S', s1, s2, X⟩ := m21 (N := N) d f1 (by omega) f5 f6 (by omega) (by omega) (by omega)
    have fo' : fo (uH w (7 + 1) (cI 0 S')) 7 S' E B C.length (flt C).length o := f1.set
    have L2 : LA (uH w 8 (cI 0 S')) 7 (rnD C) := ⟨S', E, B, o, by rw [rnD_len, flt_rnD, rnm_len]; exact fo', by omega, f3, f4, s2, hgc.gv, by rw [flt_rnD, rnm_len]; exact f7, by rw [rnD_len]; exact f8⟩
    refine ⟨uH w 8 (cI 0 S'), _, (Fr.rf _ _).up (by decide), L2.jk, fun C2 hL2 hg2 => ?_, X⟩
    obtain ⟨S2, E2, B2, o2, g1, g2, g3, g4, g5, g6, g7, g8⟩ := hL2
    have es : cI 0 S = cI 0 S2 := f1.2.1.symm.trans g1.2.1
    have ee : cI 0 E = cI 0 E2 := f1.2.2.1.symm.trans g1.2.2.1
    have eb : cI 1 B = cI 1 B2 := f1.2.2.2.symm.trans g1.2.2.2
    obtain ⟨S3, t1, t2, X3⟩ := m21 (N := N) d g1 (by omega) g5 g6 (by omega) (by omega) (by omega)
    have det : hp (uH w (7 + 1) (cI 0 S')) N = hp (uH w (7 + 1) (cI 0 S3)) N := by
      obtain ⟨M1, x1⟩ := X
      obtain ⟨M2, x2⟩ := X3
      have q1 := x1 (M1 + M2) (d + 2) (by omega) (Nat.le_refl _)
      have q2 := x2 (M1 + M2) (d + 2) (by omega) (Nat.le_refl _)
      dsimp only at q1 q2
      rw [q1] at q2
      injection q2 with q3
      injection q3
    have c8 : cI 0 S' = cI 0 S3 := by
      have := congrArg (fun h : xH => h[8]?) det
      rw [hp_get (by omega), hp_get (by omega), uH_at, uH_at] at this
      injection this
    rw [c8]
    have fo2 : fo (uH w (7 + 1) (cI 0 S3)) 7 S3 E2 B2 C2.length (flt C2).length o2 := g1.set
    exact ⟨S3, E2, B2, o2, by rw [rnD_len, flt_rnD, rnm_len]; exact fo2, by omega, g3, g4, t2, hg2.gv, by rw [flt_rnD, rnm_len]; exact g7, by rw [rnD_len]; exact g8⟩
  · obtain ⟨S, E, B, c, o, u, f1, f2, f3, f4, f5, f6, f7⟩ := h
    obtain ⟨S', s1, s2, X⟩ := m21j (N := N) (a := 7) d u f1 (by omega) f7 f6 f5 (by omega) (by omega)
    have fo' : fo (uH w (7 + 1) (cI 0 S')) 7 S' E B c u.length o := f1.set
    refine ⟨uH w 8 (cI 0 S'), _, (Fr.rf _ _).up (by decide), ⟨S', E, B, c, o, u.map (rn1 (fvs [] u)), by rw [List.length_map]; exact fo', by omega, f3, f4, by rw [List.length_map]; exact f5, fun s hs => ?_, fun j hj => ?_⟩, fun C hL hg => absurd ⟨C, hL, hg⟩ hLA, X⟩
    · obtain ⟨z, hz, rfl⟩ := List.mem_map.mp hs
      unfold rn1
      by_cases h9 : z < 99
      · rw [if_pos h9]
        have := List.idxOf_lt_length_iff.mpr (fvs_mem (q := []) hz h9)
        have := fvs_len u []
        simp only [List.length_nil] at this
        exact ⟨by omega, by omega, fun _ => by omega⟩
      · rw [if_neg h9]
        exact f6 z hz
    · rw [List.length_map] at hj
      rw [s2 j hj]
      congr 1
      rw [List.getD_eq_getElem?_getD, List.getD_eq_getElem?_getD, List.getElem?_map, List.getElem?_eq_getElem hj]
      rfl
theorem DX.add {Tx T : List Int} {c : Int} (h : DX Tx T.length 0 T) (h6 : T.length < 60) (c0 : 32 ≤ c) (c1_ : c ≤ 126) : DX (sZ Tx T.length c) ((T ++ [c]).length : Nat) 0 (T ++ [c]) := by
  obtain ⟨h1, h2, h3, h4, h5⟩ := h
  have e : (T ++ [c]).length = T.length + 1 := by simp
  refine ⟨by rw [sZ_len]; exact h1, by omega, by omega, by rw [e]; omega, fun j hj => ?_⟩
  rw [e] at hj
  rw [gZ_sZ (by omega) (by omega) (by omega), getD_app]
  by_cases q : j = T.length
  · rw [if_pos (by omega), if_neg (by omega), q, Nat.sub_self]
    exact ⟨rfl, c0, c1_⟩
  · rw [if_neg (by omega), if_pos (by omega)]
    exact h5 j (by omega)
section TKD
variable {w : Nat → xC} {N : Nat} {Ds : List (List (Int × List Int) × Bool × Int × Int)} {T U : List Int} {clm cf lf : Int}
theorem m68 (d : Nat) (h : CS w N Ds T U clm cf lf) (c : Int) (c0 : 0 ≤ c) (c9 : c < 65536) :
    ∃ w', (∀ j, 3 ≤ j → w' j = w j) ∧ CS w' N Ds (if 32 ≤ c ∧ c ≤ 126 ∧ T.length < 60 then T ++ [c] else T) U clm cf lf ∧ Xc (d + 2) 68 [.ref 3, .int (iZ c)] (hp w N) (some (.int (iZ (bZ (decide (32 ≤ c ∧ c ≤ 126 ∧ T.length < 60))))), hp w' N) := by
  have h' := h
  obtain ⟨z0, z30, ⟨p, Tx, z1, z2, z3⟩, ⟨Rf, r1, r2, r3⟩, z4, z5, z6, z7, z9, z10, z11, z12, z13⟩ := h'
  have hx := z3
  obtain ⟨x1, x2, x3, x4, x5⟩ := hx
  obtain ⟨l, hl⟩ : ∃ l : Int, l = (T.length : Int) := ⟨_, rfl⟩
  by_cases hk : 32 ≤ c ∧ c ≤ 126 ∧ T.length < 60
  · rw [if_pos hk, decide_eq_true hk, bZ_t]
    obtain ⟨w', hw'⟩ : ∃ w', w' = uH (uH w 1 (pO p (l + 1))) 2 (cI 2 (sZ Tx l c)) := ⟨_, rfl⟩
    have kf : ∀ j, 3 ≤ j → w' j = w j := fun j hj => by rw [hw', uH_ne (by omega), uH_ne (by omega)]
    have k0 : w' 0 = w 0 := by rw [hw', uH_ne (by decide), uH_ne (by decide)]
    have e : (T ++ [c]).length = T.length + 1 := by simp
    refine ⟨w', kf, ⟨k0.trans z0, z30, ⟨p, sZ Tx l c, ?_, by rw [hw', uH_at], by rw [hl]; exact z3.add hk.2.2 hk.1 hk.2.1⟩, ⟨Rf, (kf 3 (by decide)).trans r1, r2, fun i hi => ?_⟩, (kf 4 (by decide)).trans z4, (kf 5 (by decide)).trans z5, z6, ?_, z9.mvB (fun j j0 _ => kf j (by omega)), z10.mv (fun j j0 _ => kf j (by omega)), z11.mv (fun j j0 _ => kf j (by omega)), z12, fun j j0 j1 => by rw [kf j (by omega)]; exact z13 j j0 j1⟩, ?_⟩
    · rw [hw', uH_ne (by decide), uH_at, e, hl]
      rfl
    · obtain ⟨n, n1, n2⟩ := r3 i hi
      exact ⟨n, n1, n2.mv (Nat.le_refl _) (fun j j0 _ => kf j (by omega))⟩
    · obtain ⟨V, v1, v2⟩ := z7
      exact ⟨V, (kf 6 (by decide)).trans v1, v2⟩
    · have hle : x_le (hp w N) (hp w' N) := hp_le (Nat.le_refl _) (fun j _ => by
        by_cases e1 : j = 1
        · rw [e1, z1, hw', uH_ne (by decide), uH_at]; simp [x_c1]
        · by_cases e2 : j = 2
          · rw [e2, z2, hw', uH_at]; simp [x_c1, sZ_len]
          · rw [hw', uH_ne e2, uH_ne e1]; exact Nat.le_refl _)
      rw [← hl] at z1
      have b1 : ¬ 60 ≤ l := by omega
      have b2 : ¬ c < 32 := by omega
      have b3 : c ≤ 126 := hk.2.1
      have l0' : 0 ≤ l := by omega
      have lx : l < Tx.length := by omega
      have nc := nar_c c0 (by omega)
      have X : Xc (d + 1) 27 [.ref 4, .int (iZ c)] (hp w N) (some (.int (iZ 1)), hp w' N) := by
        refine Xc.of rfl (by simp [lg_sl, Value.category]) ?_ (hle)
        have hc : c1 (lv_args 0 [.ref 4, .int (iZ c)]) := by simp [c1, lv_args, Value.category]
        have l0 : x_lk (lv_args 0 [.ref 4, .int (iZ c)]) 0 = some (.ref 4) := rfl
        have l1 : x_lk (lv_args 0 [.ref 4, .int (iZ c)]) 1 = some (.int (iZ c)) := rfl
        generalize lv_args 0 [.ref 4, .int (iZ c)] = lv at hc l0 l1
        rw [hw']
        refine Gx.fin 40 Cs.tt (fun K _ => ?_)
        simp (disch := first | (refine c1_id ?_; assumption) | (refine c1_st rfl ?_; repeat (first | assumption | refine c1_st rfl ?_)) | omega) [nx_l, nx_r, nx_n, x_st, x_push, x_bin, x_div, x_un, x_dup, x_pop, x_dup2, x_goto, x_ifeq, x_ifne, x_iflt, x_ifge, x_ifgt, x_ifle, x_iceq, x_icne, x_iclt, x_icge, x_icgt, x_icle, x_ifnull, x_ifnonnull, x_ldi, x_lda, x_sti, x_sta, x_iinc, x_gf, x_pf, x_ald, x_ast, x_aln, x_len, x_cl_, x_cv, x_cs, x_rc, x_r0, x_isT, x_oi, x_rv, x_ri, x_ra, Value.category, t27_0, t27_1, t27_4, t27_6, t27_9, t27_10, t27_12, t27_15, t27_16, t27_18, t27_21, t27_22, t27_23, t27_24, t27_27, t27_28, t27_31, t27_32, t27_33, t27_34, t27_35, t27_38, t27_39, t27_40, t27_43, t27_44, lk_s, hp_get, hp_set, uH_at, uH_ne, uH_upd, uH_swap, iZ_add, iZ_sub, iZ_mul, iZ_neg, iZ_lt, iZ_le, iZ_eq, iZ_div, iZ_of, ix_Z, gZ_map, gZ_mapI, gZ_map', le_0, le_s, sZ_map, sZ_len, bZ_0, bZ_inj, bZ_t, bZ_f, nr_i, nr_0, nr_1, nr_b, ft_i, ft_b, ft_0, ft_1, zl_0, zl_1, zl_32, zl_60, zl_126, l0, l1, z1, z2, b1, b2, b3, nc, pO, -List.filter_filter, -List.getElem?_map, -List.getD_eq_getElem?_getD]
      refine Xc.of rfl (by simp [lg_sl, Value.category]) ?_ (hle)
      have hc : c1 (lv_args 0 [.ref 3, .int (iZ c)]) := by simp [c1, lv_args, Value.category]
      have l0 : x_lk (lv_args 0 [.ref 3, .int (iZ c)]) 0 = some (.ref 3) := rfl
      have l1 : x_lk (lv_args 0 [.ref 3, .int (iZ c)]) 1 = some (.int (iZ c)) := rfl
      generalize lv_args 0 [.ref 3, .int (iZ c)] = lv at hc l0 l1
      refine Gx.fin 20 X (fun K mm => ?_)
      simp (disch := first | (refine c1_id ?_; assumption) | (refine c1_st rfl ?_; repeat (first | assumption | refine c1_st rfl ?_)) | omega) [nx_l, nx_r, nx_n, x_st, x_push, x_bin, x_div, x_un, x_dup, x_pop, x_dup2, x_goto, x_ifeq, x_ifne, x_iflt, x_ifge, x_ifgt, x_ifle, x_iceq, x_icne, x_iclt, x_icge, x_icgt, x_icle, x_ifnull, x_ifnonnull, x_ldi, x_lda, x_sti, x_sta, x_iinc, x_gf, x_pf, x_ald, x_ast, x_aln, x_len, x_cl_, x_cv, x_cs, x_rc, x_r0, x_isT, x_oi, x_rv, x_ri, x_ra, Value.category, t68_0, t68_1, t68_4, t68_5, t68_8, lk_s, hp_get, hp_set, uH_at, uH_ne, uH_upd, uH_swap, iZ_add, iZ_sub, iZ_mul, iZ_neg, iZ_lt, iZ_le, iZ_eq, iZ_div, iZ_of, ix_Z, gZ_map, gZ_mapI, gZ_map', le_0, le_s, sZ_map, sZ_len, bZ_0, bZ_inj, bZ_t, bZ_f, nr_i, nr_0, nr_1, nr_b, ft_i, ft_b, ft_0, ft_1, zl_0, zl_1, l0, l1, z0, z1, mm, dk, pO, -List.filter_filter, -List.getElem?_map, -List.getD_eq_getElem?_getD]
  · rw [if_neg hk, decide_eq_false hk, bZ_f]
    refine ⟨w, fun _ _ => rfl, h, ?_⟩
    rw [← hl] at z1
    have l0' : 0 ≤ l := by omega
    have l9 : l ≤ 60 := by omega
    have X : Xc (d + 1) 27 [.ref 4, .int (iZ c)] (hp w N) (some (.int (iZ 0)), hp w N) := by
      refine Xc.of rfl (by simp [lg_sl, Value.category]) ?_ (x_le.rf)
      have hc : c1 (lv_args 0 [.ref 4, .int (iZ c)]) := by simp [c1, lv_args, Value.category]
      have l0 : x_lk (lv_args 0 [.ref 4, .int (iZ c)]) 0 = some (.ref 4) := rfl
      have l1 : x_lk (lv_args 0 [.ref 4, .int (iZ c)]) 1 = some (.int (iZ c)) := rfl
      generalize lv_args 0 [.ref 4, .int (iZ c)] = lv at hc l0 l1
      refine Gx.fin 40 Cs.tt (fun K _ => ?_)
      by_cases b1 : 60 ≤ l
      · simp (disch := first | (refine c1_id ?_; assumption) | (refine c1_st rfl ?_; repeat (first | assumption | refine c1_st rfl ?_)) | omega) [nx_l, nx_r, nx_n, x_st, x_push, x_bin, x_div, x_un, x_dup, x_pop, x_dup2, x_goto, x_ifeq, x_ifne, x_iflt, x_ifge, x_ifgt, x_ifle, x_iceq, x_icne, x_iclt, x_icge, x_icgt, x_icle, x_ifnull, x_ifnonnull, x_ldi, x_lda, x_sti, x_sta, x_iinc, x_gf, x_pf, x_ald, x_ast, x_aln, x_len, x_cl_, x_cv, x_cs, x_rc, x_r0, x_isT, x_oi, x_rv, x_ri, x_ra, Value.category, t27_0, t27_1, t27_4, t27_6, t27_9, t27_10, t27_12, t27_15, t27_16, t27_18, t27_21, t27_22, t27_23, t27_24, t27_27, t27_28, t27_31, t27_32, t27_33, t27_34, t27_35, t27_38, t27_39, t27_40, t27_43, t27_44, lk_s, hp_get, hp_set, uH_at, uH_ne, uH_upd, uH_swap, iZ_add, iZ_sub, iZ_mul, iZ_neg, iZ_lt, iZ_le, iZ_eq, iZ_div, iZ_of, ix_Z, gZ_map, gZ_mapI, gZ_map', le_0, le_s, sZ_map, sZ_len, bZ_0, bZ_inj, bZ_t, bZ_f, nr_i, nr_0, nr_1, nr_b, ft_i, ft_b, ft_0, ft_1, zl_0, zl_1, zl_32, zl_60, zl_126, l0, l1, z1, b1, pO, -List.filter_filter, -List.getElem?_map, -List.getD_eq_getElem?_getD]
      · by_cases b2 : c < 32
        · simp (disch := first | (refine c1_id ?_; assumption) | (refine c1_st rfl ?_; repeat (first | assumption | refine c1_st rfl ?_)) | omega) [nx_l, nx_r, nx_n, x_st, x_push, x_bin, x_div, x_un, x_dup, x_pop, x_dup2, x_goto, x_ifeq, x_ifne, x_iflt, x_ifge, x_ifgt, x_ifle, x_iceq, x_icne, x_iclt, x_icge, x_icgt, x_icle, x_ifnull, x_ifnonnull, x_ldi, x_lda, x_sti, x_sta, x_iinc, x_gf, x_pf, x_ald, x_ast, x_aln, x_len, x_cl_, x_cv, x_cs, x_rc, x_r0, x_isT, x_oi, x_rv, x_ri, x_ra, Value.category, t27_0, t27_1, t27_4, t27_6, t27_9, t27_10, t27_12, t27_15, t27_16, t27_18, t27_21, t27_22, t27_23, t27_24, t27_27, t27_28, t27_31, t27_32, t27_33, t27_34, t27_35, t27_38, t27_39, t27_40, t27_43, t27_44, lk_s, hp_get, hp_set, uH_at, uH_ne, uH_upd, uH_swap, iZ_add, iZ_sub, iZ_mul, iZ_neg, iZ_lt, iZ_le, iZ_eq, iZ_div, iZ_of, ix_Z, gZ_map, gZ_mapI, gZ_map', le_0, le_s, sZ_map, sZ_len, bZ_0, bZ_inj, bZ_t, bZ_f, nr_i, nr_0, nr_1, nr_b, ft_i, ft_b, ft_0, ft_1, zl_0, zl_1, zl_32, zl_60, zl_126, l0, l1, z1, b1, b2, pO, -List.filter_filter, -List.getElem?_map, -List.getD_eq_getElem?_getD]
        · have b3 : ¬ c ≤ 126 := by omega
          simp (disch := first | (refine c1_id ?_; assumption) | (refine c1_st rfl ?_; repeat (first | assumption | refine c1_st rfl ?_)) | omega) [nx_l, nx_r, nx_n, x_st, x_push, x_bin, x_div, x_un, x_dup, x_pop, x_dup2, x_goto, x_ifeq, x_ifne, x_iflt, x_ifge, x_ifgt, x_ifle, x_iceq, x_icne, x_iclt, x_icge, x_icgt, x_icle, x_ifnull, x_ifnonnull, x_ldi, x_lda, x_sti, x_sta, x_iinc, x_gf, x_pf, x_ald, x_ast, x_aln, x_len, x_cl_, x_cv, x_cs, x_rc, x_r0, x_isT, x_oi, x_rv, x_ri, x_ra, Value.category, t27_0, t27_1, t27_4, t27_6, t27_9, t27_10, t27_12, t27_15, t27_16, t27_18, t27_21, t27_22, t27_23, t27_24, t27_27, t27_28, t27_31, t27_32, t27_33, t27_34, t27_35, t27_38, t27_39, t27_40, t27_43, t27_44, lk_s, hp_get, hp_set, uH_at, uH_ne, uH_upd, uH_swap, iZ_add, iZ_sub, iZ_mul, iZ_neg, iZ_lt, iZ_le, iZ_eq, iZ_div, iZ_of, ix_Z, gZ_map, gZ_mapI, gZ_map', le_0, le_s, sZ_map, sZ_len, bZ_0, bZ_inj, bZ_t, bZ_f, nr_i, nr_0, nr_1, nr_b, ft_i, ft_b, ft_0, ft_1, zl_0, zl_1, zl_32, zl_60, zl_126, l0, l1, z1, b1, b2, b3, pO, -List.filter_filter, -List.getElem?_map, -List.getD_eq_getElem?_getD]
    refine Xc.of rfl (by simp [lg_sl, Value.category]) ?_ (x_le.rf)
    have hc : c1 (lv_args 0 [.ref 3, .int (iZ c)]) := by simp [c1, lv_args, Value.category]
    have l0 : x_lk (lv_args 0 [.ref 3, .int (iZ c)]) 0 = some (.ref 3) := rfl
    have l1 : x_lk (lv_args 0 [.ref 3, .int (iZ c)]) 1 = some (.int (iZ c)) := rfl
    generalize lv_args 0 [.ref 3, .int (iZ c)] = lv at hc l0 l1
    refine Gx.fin 20 X (fun K mm => ?_)
    simp (disch := first | (refine c1_id ?_; assumption) | (refine c1_st rfl ?_; repeat (first | assumption | refine c1_st rfl ?_)) | omega) [nx_l, nx_r, nx_n, x_st, x_push, x_bin, x_div, x_un, x_dup, x_pop, x_dup2, x_goto, x_ifeq, x_ifne, x_iflt, x_ifge, x_ifgt, x_ifle, x_iceq, x_icne, x_iclt, x_icge, x_icgt, x_icle, x_ifnull, x_ifnonnull, x_ldi, x_lda, x_sti, x_sta, x_iinc, x_gf, x_pf, x_ald, x_ast, x_aln, x_len, x_cl_, x_cv, x_cs, x_rc, x_r0, x_isT, x_oi, x_rv, x_ri, x_ra, Value.category, t68_0, t68_1, t68_4, t68_5, t68_8, lk_s, hp_get, hp_set, uH_at, uH_ne, uH_upd, uH_swap, iZ_add, iZ_sub, iZ_mul, iZ_neg, iZ_lt, iZ_le, iZ_eq, iZ_div, iZ_of, ix_Z, gZ_map, gZ_mapI, gZ_map', le_0, le_s, sZ_map, sZ_len, bZ_0, bZ_inj, bZ_t, bZ_f, nr_i, nr_0, nr_1, nr_b, ft_i, ft_b, ft_0, ft_1, zl_0, zl_1, l0, l1, z0, z1, mm, dk, pO, -List.filter_filter, -List.getElem?_map, -List.getD_eq_getElem?_getD]
/-- what taking the draft leaves -/
def TD (T U : List Int) (clm cf : Int) (w : Nat → xC) : Prop := clm = bZ (decide (T ≠ [])) ∧ match rdQ T with
  | none => cf = -1
  | some l => if (ntC l (U, false)).2 = true then cf = -2 else cf = 0 ∧ LA w 7 (rnD (uqs [] l))
theorem rdQ_lt {T : List Int} {l : List (Int × List Int)} (h : rdQ T = some l) : ∀ y ∈ l, ∀ s ∈ y.2, s < 204 := by
  unfold rdQ at h
  split at h
  · cases h
    intro y hy
    cases hy
  · split at h
    · cases h
    · next l2 hR =>
      split at h
      · cases h
        intro y hy s hs
        rcases (rdC_ok hR y hy).2.2 s hs with e | e
        · rcases e with e | e <;> omega
        · omega
      · cases h
set_option maxHeartbeats 1000000 in
theorem m82 (d : Nat) (h : CS w N Ds T U clm cf lf) :
    ∃ (w' : Nat → xC) (clm' cf' : Int), (∀ j, 11 ≤ j → w' j = w j) ∧ CS w' N Ds [] U clm' cf' lf ∧ TD T U clm' cf' w' ∧ Xc (d + 36) 82 [.ref 3] (hp w N) (none, hp w' N) := by
  have h' := h
  obtain ⟨z0, z30, ⟨p, Tx, z1, z2, z3⟩, ⟨Rf, r1, r2, r3⟩, z4, z5, z6, ⟨V, v1, v2⟩, z9, z10, z11, z12, z13⟩ := h'
  have hx := z3
  obtain ⟨x1, x2, x3, x4, x5⟩ := hx
  obtain ⟨cm, hcm⟩ : ∃ cm : Int, cm = bZ (decide (T ≠ [])) := ⟨_, rfl⟩
  have cm01 : cm = 0 ∨ cm = 1 := by rw [hcm]; cases decide (T ≠ []) <;> simp [bZ]
  obtain ⟨w1, hw1⟩ : ∃ w1, w1 = uH w 0 (dk Ds.length cm cf lf) := ⟨_, rfl⟩
  have k1 : ∀ j, 1 ≤ j → w1 j = w j := fun j hj => by rw [hw1, uH_ne (by omega)]
  obtain ⟨p2, w2, ok, a1, a2, a3, a4, a5⟩ := m28 (w := w1) (N := N) (T := T) d z12 (z9.mv (fun j j0 _ => k1 j (by omega))) ((k1 1 (by decide)).trans z1) ((k1 2 (by decide)).trans z2) z3
  have kJ : ∀ j, 2 ≤ j → (j < 7 ∨ 10 < j) → w2 j = w j := fun j h1 h2 => by
    rw [a1 j (fun z => by
      unfold ksJ at z
      simp only [List.mem_cons, List.not_mem_nil, or_false] at z
      omega)]
    exact k1 j (by omega)
  have e20 : w2 0 = dk Ds.length cm cf lf := by rw [a1 0 (by decide), hw1, uH_at]
  have e24 : w2 4 = .inr (7, [.ref 8, .ref 9]) := (kJ 4 (by decide) (by omega)).trans z4
  -- from 0 to 30
  have hc : c1 (lv_args 0 [.ref 3]) := by simp [c1, lv_args, Value.category]
  have l0 : x_lk (lv_args 0 [.ref 3]) 0 = some (.ref 3) := rfl
  obtain ⟨cnt, hcnt⟩ : ∃ cnt : Int, cnt = (Ds.length : Int) := ⟨_, rfl⟩
  rw [← hcnt] at z0 hw1 e20
  have g30 : ∀ res, Gx q_k82 (d + 35) 30 (lv_args 0 [.ref 3], [.int (iZ (bZ ok))], hp w2 N) res → Gx q_k82 (d + 35) 0 (lv_args 0 [.ref 3], [], hp w N) res := fun res hres => by
    generalize lv_args 0 [.ref 3] = lv at hc l0 hres ⊢
    refine Gx.run 40 a5 (fun K mm => ?_) hres
    obtain ⟨l, hl⟩ : ∃ l : Int, l = (T.length : Int) := ⟨_, rfl⟩
    rw [← hl] at z1
    rw [hw1] at mm
    have l9 : l ≤ 60 := by omega
    have l0'' : 0 ≤ l := by omega
    by_cases hT : T = []
    · have hcm0 : cm = 0 := by rw [hcm, decide_eq_false (fun z => z hT), bZ_f]
      have b1 : l ≤ 0 := by rw [hl, hT]; simp
      rw [hcm0] at mm
      simp (disch := first | (refine c1_id ?_; assumption) | (refine c1_st rfl ?_; repeat (first | assumption | refine c1_st rfl ?_)) | omega) [nx_l, nx_r, nx_n, x_st, x_push, x_bin, x_div, x_un, x_dup, x_pop, x_dup2, x_goto, x_ifeq, x_ifne, x_iflt, x_ifge, x_ifgt, x_ifle, x_iceq, x_icne, x_iclt, x_icge, x_icgt, x_icle, x_ifnull, x_ifnonnull, x_ldi, x_lda, x_sti, x_sta, x_iinc, x_gf, x_pf, x_ald, x_ast, x_aln, x_len, x_cl_, x_cv, x_cs, x_rc, x_r0, x_isT, x_oi, x_rv, x_ri, x_ra, Value.category, t82_0, t82_1, t82_2, t82_5, t82_8, t82_11, t82_12, t82_15, t82_16, t82_19, t82_20, t82_23, t82_24, t82_27, t82_30, t82_33, t82_34, t82_35, t82_38, t82_41, t82_42, t82_43, t82_46, t82_47, t82_50, t82_53, t82_56, t82_57, t82_60, t82_62, t82_65, t82_66, t82_69, t82_72, t82_73, t82_74, t82_77, t82_78, t82_81, lk_s, hp_get, hp_set, uH_at, uH_ne, uH_upd, uH_swap, iZ_add, iZ_sub, iZ_mul, iZ_neg, iZ_lt, iZ_le, iZ_eq, iZ_div, iZ_of, ix_Z, gZ_map, gZ_mapI, gZ_map', le_0, le_s, sZ_map, sZ_len, bZ_0, bZ_inj, bZ_t, bZ_f, nr_i, nr_0, nr_1, nr_b, ft_i, ft_b, ft_0, ft_1, zl_0, zl_1, zl_2, l0, z0, z1, b1, mm, dk, pO, -List.filter_filter, -List.getElem?_map, -List.getD_eq_getElem?_getD]
    · have hcm1 : cm = 1 := by rw [hcm, decide_eq_true hT, bZ_t]
      have b1 : ¬ l ≤ 0 := by
        have := List.length_pos_iff.mpr hT
        omega
      rw [hcm1] at mm
      simp (disch := first | (refine c1_id ?_; assumption) | (refine c1_st rfl ?_; repeat (first | assumption | refine c1_st rfl ?_)) | omega) [nx_l, nx_r, nx_n, x_st, x_push, x_bin, x_div, x_un, x_dup, x_pop, x_dup2, x_goto, x_ifeq, x_ifne, x_iflt, x_ifge, x_ifgt, x_ifle, x_iceq, x_icne, x_iclt, x_icge, x_icgt, x_icle, x_ifnull, x_ifnonnull, x_ldi, x_lda, x_sti, x_sta, x_iinc, x_gf, x_pf, x_ald, x_ast, x_aln, x_len, x_cl_, x_cv, x_cs, x_rc, x_r0, x_isT, x_oi, x_rv, x_ri, x_ra, Value.category, t82_0, t82_1, t82_2, t82_5, t82_8, t82_11, t82_12, t82_15, t82_16, t82_19, t82_20, t82_23, t82_24, t82_27, t82_30, t82_33, t82_34, t82_35, t82_38, t82_41, t82_42, t82_43, t82_46, t82_47, t82_50, t82_53, t82_56, t82_57, t82_60, t82_62, t82_65, t82_66, t82_69, t82_72, t82_73, t82_74, t82_77, t82_78, t82_81, lk_s, hp_get, hp_set, uH_at, uH_ne, uH_upd, uH_swap, iZ_add, iZ_sub, iZ_mul, iZ_neg, iZ_lt, iZ_le, iZ_eq, iZ_div, iZ_of, ix_Z, gZ_map, gZ_mapI, gZ_map', le_0, le_s, sZ_map, sZ_len, bZ_0, bZ_inj, bZ_t, bZ_f, nr_i, nr_0, nr_1, nr_b, ft_i, ft_b, ft_0, ft_1, zl_0, zl_1, zl_2, l0, z0, z1, b1, mm, dk, pO, -List.filter_filter, -List.getElem?_map, -List.getD_eq_getElem?_getD]
  -- from 65, with the fault known
  have g65 : ∀ (w3 : Nat → xC) (cf' : Int), (∀ j, 1 ≤ j → j ≠ 6 → w3 j = w2 j) → w3 0 = dk cnt cm cf' lf → (∃ V, w3 6 = cI 0 V ∧ V.length = 26) → (∀ C, LA w2 7 C → gC (rnD C) → (cf' = cf' )) → ∃ w', (∀ j, 11 ≤ j → w' j = w j) ∧ CS w' N Ds [] U cm cf' lf ∧ (∀ C, LA w2 7 C → gC (rnD C) → LA w' 7 (rnD C)) ∧ Gx q_k82 (d + 35) 65 (lv_args 0 [.ref 3], [], hp w3 N) (none, hp w' N) := fun w3 cf' f3 e30 hV _ => by
    have hJ3 : JK w3 7 := a2.mv (fun j j0 j1 => f3 j (by omega) (by omega))
    obtain ⟨w4, n, s1, s2, s3, s4⟩ := hJ3.names (N := N) (d + 33) z12
    obtain ⟨w', hw'⟩ : ∃ w', w' = uH w4 1 (pO p2 0) := ⟨_, rfl⟩
    have k' : ∀ j, j ≠ 1 → j ≠ 8 → w' j = w3 j := fun j h1 h8 => by rw [hw', uH_ne h1]; exact s1 j (by simpa using h8)
    have kk : ∀ j, 2 ≤ j → (j < 6 ∨ 10 < j) → w' j = w j := fun j h1 h2 => by rw [k' j (by omega) (by omega), f3 j (by omega) (by omega)]; exact kJ j h1 (by omega)
    have L' : ∀ C, LA w4 7 C → LA w' 7 C := fun C hC => hC.mv (fun j j0 j1 => by rw [hw', uH_ne (by omega)])
    refine ⟨w', fun j hj => kk j (by omega) (by omega), ⟨?_, z30, ⟨p2, Tx, by rw [hw', uH_at]; rfl, (kk 2 (by decide) (by omega)).trans z2, ⟨x1, by omega, by simp, by simp, fun j hj => absurd hj (Nat.not_lt_zero _)⟩⟩, ⟨Rf, (kk 3 (by decide) (by omega)).trans r1, r2, fun i hi => ?_⟩, (kk 4 (by decide) (by omega)).trans z4, (kk 5 (by decide) (by omega)).trans z5, z6, ?_, s2.mv (fun j j0 j1 => by rw [hw', uH_ne (by omega)]), ?_, z11.mv (fun j j0 j1 => kk j (by omega) (by omega)), z12, fun j j0 j1 => by rw [kk j (by omega) (by omega)]; exact z13 j j0 j1⟩, fun C hC hg => L' _ (s3 C (hC.mv (fun j j0 j1 => f3 j (by omega) (by omega))) hg), ?_⟩
    · rw [k' 0 (by decide) (by decide), e30, hcnt]
    · obtain ⟨n, n1, n2⟩ := r3 i hi
      exact ⟨n, n1, n2.mv (Nat.le_refl _) (fun j j0 _ => kk j (by omega) (by omega))⟩
    · obtain ⟨V, q1, q2⟩ := hV
      exact ⟨V, (k' 6 (by decide) (by decide)).trans q1, q2⟩
    · obtain ⟨⟨q1, q2, q3, q4, q5, q6, b0⟩, b1, b2⟩ := z10
      have fX : ∀ j, 11 ≤ j → j ≤ 26 → w' j = w j := fun j j0 j1 => kk j (by omega) (by omega)
      obtain ⟨S, E, B, c, ln, o, ⟨c1', c2', c3', c4'⟩, c5'⟩ := b1
      obtain ⟨l, wt, Sy, Ee, Ro, Fs, Fi, Os, Ot, g1, g2, g3, g4, g5, g6, g7, g8, g9, g10, g11, g12, g13, g14, g15, g16, g17⟩ := b2
      exact ⟨⟨q1, q2, q3, q4, q5, q6, (fX 11 (by decide) (by decide)).trans b0⟩, ⟨S, E, B, c, ln, o, ⟨(fX 12 (by decide) (by decide)).trans c1', (fX 13 (by decide) (by decide)).trans c2', (fX 14 (by decide) (by decide)).trans c3', (fX 15 (by decide) (by decide)).trans c4'⟩, c5'⟩, ⟨l, wt, Sy, Ee, Ro, Fs, Fi, Os, Ot, (fX 16 (by decide) (by decide)).trans g1, (fX 17 (by decide) (by decide)).trans g2, g3, (fX 18 (by decide) (by decide)).trans g4, g5, (fX 19 (by decide) (by decide)).trans g6, g7, g8, (fX 20 (by decide) (by decide)).trans g9, g10, (fX 21 (by decide) (by decide)).trans g11, g12, g13, (fX 22 (by decide) (by decide)).trans g14, g15, (fX 23 (by decide) (by decide)).trans g16, g17⟩⟩
    · generalize lv_args 0 [.ref 3] = lv at hc l0 ⊢
      have e37 : ∃ F, w3 7 = .inr (4, F) := by
        obtain ⟨S, E, B, c, o, u, f, _⟩ := hJ3
        exact ⟨_, f.1⟩
      obtain ⟨F, e37⟩ := e37
      have e40 : w4 0 = dk cnt cm cf' lf := (s1 0 (by decide)).trans e30
      have e41 : w4 1 = pO p2 T.length := by rw [s1 1 (by decide), f3 1 (by decide) (by decide)]; exact a3
      rw [hw']
      refine Gx.fin 30 s4 (fun K mm => ?_)
      simp (disch := first | (refine c1_id ?_; assumption) | (refine c1_st rfl ?_; repeat (first | assumption | refine c1_st rfl ?_)) | omega) [nx_l, nx_r, nx_n, x_st, x_push, x_bin, x_div, x_un, x_dup, x_pop, x_dup2, x_goto, x_ifeq, x_ifne, x_iflt, x_ifge, x_ifgt, x_ifle, x_iceq, x_icne, x_iclt, x_icge, x_icgt, x_icle, x_ifnull, x_ifnonnull, x_ldi, x_lda, x_sti, x_sta, x_iinc, x_gf, x_pf, x_ald, x_ast, x_aln, x_len, x_cl_, x_cv, x_cs, x_rc, x_r0, x_isT, x_oi, x_rv, x_ri, x_ra, Value.category, t82_0, t82_1, t82_2, t82_5, t82_8, t82_11, t82_12, t82_15, t82_16, t82_19, t82_20, t82_23, t82_24, t82_27, t82_30, t82_33, t82_34, t82_35, t82_38, t82_41, t82_42, t82_43, t82_46, t82_47, t82_50, t82_53, t82_56, t82_57, t82_60, t82_62, t82_65, t82_66, t82_69, t82_72, t82_73, t82_74, t82_77, t82_78, t82_81, lk_s, hp_get, hp_set, uH_at, uH_ne, uH_upd, uH_swap, iZ_add, iZ_sub, iZ_mul, iZ_neg, iZ_lt, iZ_le, iZ_eq, iZ_div, iZ_of, ix_Z, gZ_map, gZ_mapI, gZ_map', le_0, le_s, sZ_map, sZ_len, bZ_0, bZ_inj, bZ_t, bZ_f, nr_i, nr_0, nr_1, nr_b, ft_i, ft_b, ft_0, ft_1, zl_0, zl_1, zl_2, l0, e30, e37, e40, e41, mm, dk, pO, -List.filter_filter, -List.getElem?_map, -List.getD_eq_getElem?_getD]
  have hle : ∀ {w' : Nat → xC} {cl' cf' : Int}, (∀ j, 11 ≤ j → w' j = w j) → CS w' N Ds [] U cl' cf' lf → x_le (hp w N) (hp w' N) := fun {w' cl' cf'} f hc' => by
    obtain ⟨y0, _, ⟨p', Tx', y1, y2, y3⟩, ⟨Rf', q1, q2, _⟩, y4, y5, _, ⟨V', u1, u2⟩, y9, _⟩ := hc'
    refine hp_le (Nat.le_refl _) (fun j _ => ?_)
    by_cases hj : 11 ≤ j
    · rw [f j hj]; exact Nat.le_refl _
    · obtain ⟨S, E, B, c, o, u, ⟨b1, b2, b3, b4⟩, b5, b6, b7, _⟩ := z9
      obtain ⟨S', E', B', c', o', u', ⟨d1, d2, d3, d4⟩, d5, d6, d7, _⟩ := y9
      have b2' : w 8 = cI 0 S := b2
      have b3' : w 9 = cI 0 E := b3
      have b4' : w 10 = cI 1 B := b4
      have d2' : w' 8 = cI 0 S' := d2
      have d3' : w' 9 = cI 0 E' := d3
      have d4' : w' 10 = cI 1 B' := d4
      have hj' : j = 0 ∨ j = 1 ∨ j = 2 ∨ j = 3 ∨ j = 4 ∨ j = 5 ∨ j = 6 ∨ j = 7 ∨ j = 8 ∨ j = 9 ∨ j = 10 := by omega
      rcases hj' with rfl | rfl | rfl | rfl | rfl | rfl | rfl | rfl | rfl | rfl | rfl
      · rw [z0, y0]; simp [x_c1]
      · rw [z1, y1]; simp [x_c1]
      · rw [z2, y2]; simp [x_c1, x1, y3.1]
      · rw [r1, q1]; simp [x_c1, r2, q2]
      · rw [z4, y4]; exact Nat.le_refl _
      · rw [z5, y5]; exact Nat.le_refl _
      · rw [v1, u1]; simp [x_c1, v2, u2]
      · rw [b1, d1]; simp [x_c1]
      · rw [b2', d2']; simp [x_c1, b5, d5]
      · rw [b3', d3']; simp [x_c1, b6, d6]
      · rw [b4', d4']; simp [x_c1, b7, d7]
  cases hrd : rdQ T with
  | none =>
    unfold R28 at a4
    rw [hrd] at a4
    rw [a4, bZ_f] at g30
    obtain ⟨w3, hw3⟩ : ∃ w3, w3 = uH w2 0 (dk cnt cm (-1) lf) := ⟨_, rfl⟩
    obtain ⟨w', b1, b2, b3, b4⟩ := g65 w3 (-1) (fun j j0 _ => by rw [hw3, uH_ne (by omega)]) (by rw [hw3, uH_at]) ⟨V, by rw [hw3, uH_ne (by decide)]; exact (kJ 6 (by decide) (by omega)).trans v1, v2⟩ (fun _ _ _ => rfl)
    refine ⟨w', cm, -1, b1, b2, ⟨hcm, by rw [hrd]⟩, Xc.of rfl (by simp [lg_sl, Value.category]) (g30 _ (Gx.run 20 Cs.tt (fun K _ => ?_) b4)) (hle b1 b2)⟩
    generalize lv_args 0 [.ref 3] = lv at hc l0 ⊢
    rw [hw3]
    simp (disch := first | (refine c1_id ?_; assumption) | (refine c1_st rfl ?_; repeat (first | assumption | refine c1_st rfl ?_)) | omega) [nx_l, nx_r, nx_n, x_st, x_push, x_bin, x_div, x_un, x_dup, x_pop, x_dup2, x_goto, x_ifeq, x_ifne, x_iflt, x_ifge, x_ifgt, x_ifle, x_iceq, x_icne, x_iclt, x_icge, x_icgt, x_icle, x_ifnull, x_ifnonnull, x_ldi, x_lda, x_sti, x_sta, x_iinc, x_gf, x_pf, x_ald, x_ast, x_aln, x_len, x_cl_, x_cv, x_cs, x_rc, x_r0, x_isT, x_oi, x_rv, x_ri, x_ra, Value.category, t82_0, t82_1, t82_2, t82_5, t82_8, t82_11, t82_12, t82_15, t82_16, t82_19, t82_20, t82_23, t82_24, t82_27, t82_30, t82_33, t82_34, t82_35, t82_38, t82_41, t82_42, t82_43, t82_46, t82_47, t82_50, t82_53, t82_56, t82_57, t82_60, t82_62, t82_65, t82_66, t82_69, t82_72, t82_73, t82_74, t82_77, t82_78, t82_81, lk_s, hp_get, hp_set, uH_at, uH_ne, uH_upd, uH_swap, iZ_add, iZ_sub, iZ_mul, iZ_neg, iZ_lt, iZ_le, iZ_eq, iZ_div, iZ_of, ix_Z, gZ_map, gZ_mapI, gZ_map', le_0, le_s, sZ_map, sZ_len, bZ_0, bZ_inj, bZ_t, bZ_f, nr_i, nr_0, nr_1, nr_b, ft_i, ft_b, ft_0, ft_1, zl_0, zl_1, zl_2, l0, e20, dk, -List.filter_filter, -List.getElem?_map, -List.getD_eq_getElem?_getD]
  | some l =>
    unfold R28 at a4
    rw [hrd] at a4
    obtain ⟨a4, aL⟩ := a4
    rw [a4, bZ_t] at g30
    have gc := rdQ_ok hrd
    obtain ⟨V', q1, X36⟩ := m36 (w := w2) (N := N) (d + 32) z12 e24 z6 v2 ((kJ 5 (by decide) (by omega)).trans z5) ((kJ 6 (by decide) (by omega)).trans v1) aL
    have sm := nt_uqs z6.1 l [] (fun y hy => by cases hy) (rdQ_lt hrd)
    have ef : (ntC (uqs [] l) (U, false)).2 = (ntC l (U, false)).2 := sm.1
    rw [ef] at X36
    obtain ⟨cf', hcf'⟩ : ∃ cf' : Int, cf' = if (ntC l (U, false)).2 = true then -2 else 0 := ⟨_, rfl⟩
    obtain ⟨w3, hw3⟩ : ∃ w3, w3 = uH (uH w2 0 (dk cnt cm cf' lf)) 6 (cI 0 V') := ⟨_, rfl⟩
    obtain ⟨w', b1, b2, b3, b4⟩ := g65 w3 cf' (fun j j0 j6 => by rw [hw3, uH_ne j6, uH_ne (by omega)]) (by rw [hw3, uH_ne (by decide), uH_at]) ⟨V', by rw [hw3, uH_at], q1⟩ (fun _ _ _ => rfl)
    refine ⟨w', cm, cf', b1, b2, ⟨hcm, ?_⟩, Xc.of rfl (by simp [lg_sl, Value.category]) (g30 _ (Gx.run 40 X36 (fun K mm => ?_) b4)) (hle b1 b2)⟩
    · rw [hrd]
      dsimp only
      by_cases hf : (ntC l (U, false)).2 = true
      · rw [if_pos hf]
        rw [if_pos hf] at hcf'
        exact hcf'
      · rw [if_neg hf]
        rw [if_neg hf] at hcf'
        exact ⟨hcf', b3 _ aL gc.2.2⟩
    · generalize lv_args 0 [.ref 3] = lv at hc l0 ⊢
      have e60 : (uH w2 6 (cI 0 V')) 0 = dk cnt cm cf lf := by rw [uH_ne (by decide)]; exact e20
      rw [hw3]
      obtain ⟨F4, hF4⟩ : ∃ F4, F4 = w2 4 := ⟨_, rfl⟩
      by_cases hf : (ntC l (U, false)).2 = true
      · rw [if_pos hf] at hcf'
        rw [hf] at mm
        have mm : K 36 [.ref 7, .ref 10] (hp w2 N) = some (some (.int (iZ 0)), hp (uH w2 6 (cI 0 V')) N) := mm
        rw [hcf']
        simp (disch := first | (refine c1_id ?_; assumption) | (refine c1_st rfl ?_; repeat (first | assumption | refine c1_st rfl ?_)) | omega) [nx_l, nx_r, nx_n, x_st, x_push, x_bin, x_div, x_un, x_dup, x_pop, x_dup2, x_goto, x_ifeq, x_ifne, x_iflt, x_ifge, x_ifgt, x_ifle, x_iceq, x_icne, x_iclt, x_icge, x_icgt, x_icle, x_ifnull, x_ifnonnull, x_ldi, x_lda, x_sti, x_sta, x_iinc, x_gf, x_pf, x_ald, x_ast, x_aln, x_len, x_cl_, x_cv, x_cs, x_rc, x_r0, x_isT, x_oi, x_rv, x_ri, x_ra, Value.category, t82_0, t82_1, t82_2, t82_5, t82_8, t82_11, t82_12, t82_15, t82_16, t82_19, t82_20, t82_23, t82_24, t82_27, t82_30, t82_33, t82_34, t82_35, t82_38, t82_41, t82_42, t82_43, t82_46, t82_47, t82_50, t82_53, t82_56, t82_57, t82_60, t82_62, t82_65, t82_66, t82_69, t82_72, t82_73, t82_74, t82_77, t82_78, t82_81, lk_s, hp_get, hp_set, uH_at, uH_ne, uH_upd, uH_swap, iZ_add, iZ_sub, iZ_mul, iZ_neg, iZ_lt, iZ_le, iZ_eq, iZ_div, iZ_of, ix_Z, gZ_map, gZ_mapI, gZ_map', le_0, le_s, sZ_map, sZ_len, bZ_0, bZ_inj, bZ_t, bZ_f, nr_i, nr_0, nr_1, nr_b, ft_i, ft_b, ft_0, ft_1, zl_0, zl_1, zl_2, l0, e20, e24, e60, mm, dk, -List.filter_filter, -List.getElem?_map, -List.getD_eq_getElem?_getD]
      · rw [if_neg hf] at hcf'
        have hf' : (ntC l (U, false)).2 = false := by simpa using hf
        rw [hf'] at mm
        have mm : K 36 [.ref 7, .ref 10] (hp w2 N) = some (some (.int (iZ 1)), hp (uH w2 6 (cI 0 V')) N) := mm
        rw [hcf']
        simp (disch := first | (refine c1_id ?_; assumption) | (refine c1_st rfl ?_; repeat (first | assumption | refine c1_st rfl ?_)) | omega) [nx_l, nx_r, nx_n, x_st, x_push, x_bin, x_div, x_un, x_dup, x_pop, x_dup2, x_goto, x_ifeq, x_ifne, x_iflt, x_ifge, x_ifgt, x_ifle, x_iceq, x_icne, x_iclt, x_icge, x_icgt, x_icle, x_ifnull, x_ifnonnull, x_ldi, x_lda, x_sti, x_sta, x_iinc, x_gf, x_pf, x_ald, x_ast, x_aln, x_len, x_cl_, x_cv, x_cs, x_rc, x_r0, x_isT, x_oi, x_rv, x_ri, x_ra, Value.category, t82_0, t82_1, t82_2, t82_5, t82_8, t82_11, t82_12, t82_15, t82_16, t82_19, t82_20, t82_23, t82_24, t82_27, t82_30, t82_33, t82_34, t82_35, t82_38, t82_41, t82_42, t82_43, t82_46, t82_47, t82_50, t82_53, t82_56, t82_57, t82_60, t82_62, t82_65, t82_66, t82_69, t82_72, t82_73, t82_74, t82_77, t82_78, t82_81, lk_s, hp_get, hp_set, uH_at, uH_ne, uH_upd, uH_swap, iZ_add, iZ_sub, iZ_mul, iZ_neg, iZ_lt, iZ_le, iZ_eq, iZ_div, iZ_of, ix_Z, gZ_map, gZ_mapI, gZ_map', le_0, le_s, sZ_map, sZ_len, bZ_0, bZ_inj, bZ_t, bZ_f, nr_i, nr_0, nr_1, nr_b, ft_i, ft_b, ft_0, ft_1, zl_0, zl_1, zl_2, l0, e20, e24, e60, mm, dk, -List.filter_filter, -List.getElem?_map, -List.getD_eq_getElem?_getD]
end TKD
