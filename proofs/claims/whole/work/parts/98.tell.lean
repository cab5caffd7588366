/-! the reference: a term is told -/
theorem f137_0 : x_fetch q_k137 0 = x_lda 1 0 := rfl
theorem t137_0 (C : xF) (s n : Nat) (z : xS) : x_to q_k137 C s (n + 1) 0 z = x_nx q_k137 C s n ((x_lda 1 0) C z) := x_to_at f137_0 C s n z
theorem f137_1 : x_fetch q_k137 1 = x_lda 2 0 := rfl
theorem t137_1 (C : xF) (s n : Nat) (z : xS) : x_to q_k137 C s (n + 1) 1 z = x_nx q_k137 C s n ((x_lda 2 0) C z) := x_to_at f137_1 C s n z
theorem f137_2 : x_fetch q_k137 2 = x_gf 5 8 36 := rfl
theorem t137_2 (C : xF) (s n : Nat) (z : xS) : x_to q_k137 C s (n + 1) 2 z = x_nx q_k137 C s n ((x_gf 5 8 36) C z) := x_to_at f137_2 C s n z
theorem f137_5 : x_fetch q_k137 5 = x_lda 6 0 := rfl
theorem t137_5 (C : xF) (s n : Nat) (z : xS) : x_to q_k137 C s (n + 1) 5 z = x_nx q_k137 C s n ((x_lda 6 0) C z) := x_to_at f137_5 C s n z
theorem f137_6 : x_fetch q_k137 6 = x_gf 9 8 37 := rfl
theorem t137_6 (C : xF) (s n : Nat) (z : xS) : x_to q_k137 C s (n + 1) 6 z = x_nx q_k137 C s n ((x_gf 9 8 37) C z) := x_to_at f137_6 C s n z
theorem f137_9 : x_fetch q_k137 9 = x_st (x_icne 16 12) := rfl
theorem t137_9 (C : xF) (s n : Nat) (z : xS) : x_to q_k137 C s (n + 1) 9 z = x_nx q_k137 C s n ((x_st (x_icne 16 12)) C z) := x_to_at f137_9 C s n z
theorem f137_12 : x_fetch q_k137 12 = x_ldi 13 1 := rfl
theorem t137_12 (C : xF) (s n : Nat) (z : xS) : x_to q_k137 C s (n + 1) 12 z = x_nx q_k137 C s n ((x_ldi 13 1) C z) := x_to_at f137_12 C s n z
theorem f137_13 : x_fetch q_k137 13 = x_st (x_goto 20) := rfl
theorem t137_13 (C : xF) (s n : Nat) (z : xS) : x_to q_k137 C s (n + 1) 13 z = x_nx q_k137 C s n ((x_st (x_goto 20)) C z) := x_to_at f137_13 C s n z
theorem f137_16 : x_fetch q_k137 16 = x_lda 17 0 := rfl
theorem t137_16 (C : xF) (s n : Nat) (z : xS) : x_to q_k137 C s (n + 1) 16 z = x_nx q_k137 C s n ((x_lda 17 0) C z) := x_to_at f137_16 C s n z
theorem f137_17 : x_fetch q_k137 17 = x_gf 20 8 38 := rfl
theorem t137_17 (C : xF) (s n : Nat) (z : xS) : x_to q_k137 C s (n + 1) 17 z = x_nx q_k137 C s n ((x_gf 20 8 38) C z) := x_to_at f137_17 C s n z
theorem f137_20 : x_fetch q_k137 20 = x_pf 23 8 38 (.int) := rfl
theorem t137_20 (C : xF) (s n : Nat) (z : xS) : x_to q_k137 C s (n + 1) 20 z = x_nx q_k137 C s n ((x_pf 23 8 38 (.int)) C z) := x_to_at f137_20 C s n z
theorem f137_23 : x_fetch q_k137 23 = x_lda 24 0 := rfl
theorem t137_23 (C : xF) (s n : Nat) (z : xS) : x_to q_k137 C s (n + 1) 23 z = x_nx q_k137 C s n ((x_lda 24 0) C z) := x_to_at f137_23 C s n z
theorem f137_24 : x_fetch q_k137 24 = x_st (x_dup 25) := rfl
theorem t137_24 (C : xF) (s n : Nat) (z : xS) : x_to q_k137 C s (n + 1) 24 z = x_nx q_k137 C s n ((x_st (x_dup 25)) C z) := x_to_at f137_24 C s n z
theorem f137_25 : x_fetch q_k137 25 = x_gf 28 8 36 := rfl
theorem t137_25 (C : xF) (s n : Nat) (z : xS) : x_to q_k137 C s (n + 1) 25 z = x_nx q_k137 C s n ((x_gf 28 8 36) C z) := x_to_at f137_25 C s n z
theorem f137_28 : x_fetch q_k137 28 = x_st (x_push 29 (.int (1))) := rfl
theorem t137_28 (C : xF) (s n : Nat) (z : xS) : x_to q_k137 C s (n + 1) 28 z = x_nx q_k137 C s n ((x_st (x_push 29 (.int (1)))) C z) := x_to_at f137_28 C s n z
theorem f137_29 : x_fetch q_k137 29 = x_st (x_bin 30 (fun a b => a + b)) := rfl
theorem t137_29 (C : xF) (s n : Nat) (z : xS) : x_to q_k137 C s (n + 1) 29 z = x_nx q_k137 C s n ((x_st (x_bin 30 (fun a b => a + b))) C z) := x_to_at f137_29 C s n z
theorem f137_30 : x_fetch q_k137 30 = x_pf 33 8 36 (.int) := rfl
theorem t137_30 (C : xF) (s n : Nat) (z : xS) : x_to q_k137 C s (n + 1) 30 z = x_nx q_k137 C s n ((x_pf 33 8 36 (.int)) C z) := x_to_at f137_30 C s n z
theorem f137_33 : x_fetch q_k137 33 = x_rv := rfl
theorem t137_33 (C : xF) (s n : Nat) (z : xS) : x_to q_k137 C s (n + 1) 33 z = x_nx q_k137 C s n ((x_rv) C z) := x_to_at f137_33 C s n z
theorem f138_0 : x_fetch q_k138 0 = x_st (x_push 1 (.int (0))) := rfl
theorem t138_0 (C : xF) (s n : Nat) (z : xS) : x_to q_k138 C s (n + 1) 0 z = x_nx q_k138 C s n ((x_st (x_push 1 (.int (0)))) C z) := x_to_at f138_0 C s n z
theorem f138_1 : x_fetch q_k138 1 = x_sti 2 3 := rfl
theorem t138_1 (C : xF) (s n : Nat) (z : xS) : x_to q_k138 C s (n + 1) 1 z = x_nx q_k138 C s n ((x_sti 2 3) C z) := x_to_at f138_1 C s n z
theorem f138_2 : x_fetch q_k138 2 = x_ldi 3 1 := rfl
theorem t138_2 (C : xF) (s n : Nat) (z : xS) : x_to q_k138 C s (n + 1) 2 z = x_nx q_k138 C s n ((x_ldi 3 1) C z) := x_to_at f138_2 C s n z
theorem f138_3 : x_fetch q_k138 3 = x_sti 5 4 := rfl
theorem t138_3 (C : xF) (s n : Nat) (z : xS) : x_to q_k138 C s (n + 1) 3 z = x_nx q_k138 C s n ((x_sti 5 4) C z) := x_to_at f138_3 C s n z
theorem f138_5 : x_fetch q_k138 5 = x_ldi 7 4 := rfl
theorem t138_5 (C : xF) (s n : Nat) (z : xS) : x_to q_k138 C s (n + 1) 5 z = x_nx q_k138 C s n ((x_ldi 7 4) C z) := x_to_at f138_5 C s n z
theorem f138_7 : x_fetch q_k138 7 = x_ldi 8 2 := rfl
theorem t138_7 (C : xF) (s n : Nat) (z : xS) : x_to q_k138 C s (n + 1) 7 z = x_nx q_k138 C s n ((x_ldi 8 2) C z) := x_to_at f138_7 C s n z
theorem f138_8 : x_fetch q_k138 8 = x_st (x_icge 169 11) := rfl
theorem t138_8 (C : xF) (s n : Nat) (z : xS) : x_to q_k138 C s (n + 1) 8 z = x_nx q_k138 C s n ((x_st (x_icge 169 11)) C z) := x_to_at f138_8 C s n z
theorem f138_11 : x_fetch q_k138 11 = x_lda 12 0 := rfl
theorem t138_11 (C : xF) (s n : Nat) (z : xS) : x_to q_k138 C s (n + 1) 11 z = x_nx q_k138 C s n ((x_lda 12 0) C z) := x_to_at f138_11 C s n z
theorem f138_12 : x_fetch q_k138 12 = x_gf 15 8 3 := rfl
theorem t138_12 (C : xF) (s n : Nat) (z : xS) : x_to q_k138 C s (n + 1) 12 z = x_nx q_k138 C s n ((x_gf 15 8 3) C z) := x_to_at f138_12 C s n z
theorem f138_15 : x_fetch q_k138 15 = x_ldi 17 4 := rfl
theorem t138_15 (C : xF) (s n : Nat) (z : xS) : x_to q_k138 C s (n + 1) 15 z = x_nx q_k138 C s n ((x_ldi 17 4) C z) := x_to_at f138_15 C s n z
theorem f138_17 : x_fetch q_k138 17 = x_ald 18 0 := rfl
theorem t138_17 (C : xF) (s n : Nat) (z : xS) : x_to q_k138 C s (n + 1) 17 z = x_nx q_k138 C s n ((x_ald 18 0) C z) := x_to_at f138_17 C s n z
theorem f138_18 : x_fetch q_k138 18 = x_sti 20 5 := rfl
theorem t138_18 (C : xF) (s n : Nat) (z : xS) : x_to q_k138 C s (n + 1) 18 z = x_nx q_k138 C s n ((x_sti 20 5) C z) := x_to_at f138_18 C s n z
theorem f138_20 : x_fetch q_k138 20 = x_lda 21 0 := rfl
theorem t138_20 (C : xF) (s n : Nat) (z : xS) : x_to q_k138 C s (n + 1) 20 z = x_nx q_k138 C s n ((x_lda 21 0) C z) := x_to_at f138_20 C s n z
theorem f138_21 : x_fetch q_k138 21 = x_ldi 23 5 := rfl
theorem t138_21 (C : xF) (s n : Nat) (z : xS) : x_to q_k138 C s (n + 1) 21 z = x_nx q_k138 C s n ((x_ldi 23 5) C z) := x_to_at f138_21 C s n z
theorem f138_23 : x_fetch q_k138 23 = x_st (x_push 25 (.int (99))) := rfl
theorem t138_23 (C : xF) (s n : Nat) (z : xS) : x_to q_k138 C s (n + 1) 23 z = x_nx q_k138 C s n ((x_st (x_push 25 (.int (99)))) C z) := x_to_at f138_23 C s n z
theorem f138_25 : x_fetch q_k138 25 = x_st (x_icge 36 28) := rfl
theorem t138_25 (C : xF) (s n : Nat) (z : xS) : x_to q_k138 C s (n + 1) 25 z = x_nx q_k138 C s n ((x_st (x_icge 36 28)) C z) := x_to_at f138_25 C s n z
theorem f138_28 : x_fetch q_k138 28 = x_st (x_push 30 (.int (65))) := rfl
theorem t138_28 (C : xF) (s n : Nat) (z : xS) : x_to q_k138 C s (n + 1) 28 z = x_nx q_k138 C s n ((x_st (x_push 30 (.int (65)))) C z) := x_to_at f138_28 C s n z
theorem f138_30 : x_fetch q_k138 30 = x_ldi 32 5 := rfl
theorem t138_30 (C : xF) (s n : Nat) (z : xS) : x_to q_k138 C s (n + 1) 30 z = x_nx q_k138 C s n ((x_ldi 32 5) C z) := x_to_at f138_30 C s n z
theorem f138_32 : x_fetch q_k138 32 = x_st (x_bin 33 (fun a b => a + b)) := rfl
theorem t138_32 (C : xF) (s n : Nat) (z : xS) : x_to q_k138 C s (n + 1) 32 z = x_nx q_k138 C s n ((x_st (x_bin 33 (fun a b => a + b))) C z) := x_to_at f138_32 C s n z
theorem f138_33 : x_fetch q_k138 33 = x_st (x_goto 46) := rfl
theorem t138_33 (C : xF) (s n : Nat) (z : xS) : x_to q_k138 C s (n + 1) 33 z = x_nx q_k138 C s n ((x_st (x_goto 46)) C z) := x_to_at f138_33 C s n z
theorem f138_36 : x_fetch q_k138 36 = x_st (x_push 38 (.int (97))) := rfl
theorem t138_36 (C : xF) (s n : Nat) (z : xS) : x_to q_k138 C s (n + 1) 36 z = x_nx q_k138 C s n ((x_st (x_push 38 (.int (97)))) C z) := x_to_at f138_36 C s n z
theorem f138_38 : x_fetch q_k138 38 = x_ldi 40 5 := rfl
theorem t138_38 (C : xF) (s n : Nat) (z : xS) : x_to q_k138 C s (n + 1) 38 z = x_nx q_k138 C s n ((x_ldi 40 5) C z) := x_to_at f138_38 C s n z
theorem f138_40 : x_fetch q_k138 40 = x_st (x_push 42 (.int (100))) := rfl
theorem t138_40 (C : xF) (s n : Nat) (z : xS) : x_to q_k138 C s (n + 1) 40 z = x_nx q_k138 C s n ((x_st (x_push 42 (.int (100)))) C z) := x_to_at f138_40 C s n z
theorem f138_42 : x_fetch q_k138 42 = x_st (x_bin 43 (fun a b => a - b)) := rfl
theorem t138_42 (C : xF) (s n : Nat) (z : xS) : x_to q_k138 C s (n + 1) 42 z = x_nx q_k138 C s n ((x_st (x_bin 43 (fun a b => a - b))) C z) := x_to_at f138_42 C s n z
theorem f138_43 : x_fetch q_k138 43 = x_st (x_push 44 (.int (4))) := rfl
theorem t138_43 (C : xF) (s n : Nat) (z : xS) : x_to q_k138 C s (n + 1) 43 z = x_nx q_k138 C s n ((x_st (x_push 44 (.int (4)))) C z) := x_to_at f138_43 C s n z
theorem f138_44 : x_fetch q_k138 44 = x_st (x_div 45 (fun a b => a / b)) := rfl
theorem t138_44 (C : xF) (s n : Nat) (z : xS) : x_to q_k138 C s (n + 1) 44 z = x_nx q_k138 C s n ((x_st (x_div 45 (fun a b => a / b))) C z) := x_to_at f138_44 C s n z
theorem f138_45 : x_fetch q_k138 45 = x_st (x_bin 46 (fun a b => a + b)) := rfl
theorem t138_45 (C : xF) (s n : Nat) (z : xS) : x_to q_k138 C s (n + 1) 45 z = x_nx q_k138 C s n ((x_st (x_bin 46 (fun a b => a + b))) C z) := x_to_at f138_45 C s n z
theorem f138_46 : x_fetch q_k138 46 = x_cv 49 137 2 8 := rfl
theorem t138_46 (C : xF) (s n : Nat) (z : xS) : x_to q_k138 C s (n + 1) 46 z = x_nx q_k138 C s n ((x_cv 49 137 2 8) C z) := x_to_at f138_46 C s n z
theorem f138_49 : x_fetch q_k138 49 = x_ldi 51 5 := rfl
theorem t138_49 (C : xF) (s n : Nat) (z : xS) : x_to q_k138 C s (n + 1) 49 z = x_nx q_k138 C s n ((x_ldi 51 5) C z) := x_to_at f138_49 C s n z
theorem f138_51 : x_fetch q_k138 51 = x_cl_ 54 101 1 := rfl
theorem t138_51 (C : xF) (s n : Nat) (z : xS) : x_to q_k138 C s (n + 1) 51 z = x_nx q_k138 C s n ((x_cl_ 54 101 1) C z) := x_to_at f138_51 C s n z
theorem f138_54 : x_fetch q_k138 54 = x_st (x_ifle 80 57) := rfl
theorem t138_54 (C : xF) (s n : Nat) (z : xS) : x_to q_k138 C s (n + 1) 54 z = x_nx q_k138 C s n ((x_st (x_ifle 80 57)) C z) := x_to_at f138_54 C s n z
theorem f138_57 : x_fetch q_k138 57 = x_lda 58 0 := rfl
theorem t138_57 (C : xF) (s n : Nat) (z : xS) : x_to q_k138 C s (n + 1) 57 z = x_nx q_k138 C s n ((x_lda 58 0) C z) := x_to_at f138_57 C s n z
theorem f138_58 : x_fetch q_k138 58 = x_st (x_push 60 (.int (40))) := rfl
theorem t138_58 (C : xF) (s n : Nat) (z : xS) : x_to q_k138 C s (n + 1) 58 z = x_nx q_k138 C s n ((x_st (x_push 60 (.int (40)))) C z) := x_to_at f138_58 C s n z
theorem f138_60 : x_fetch q_k138 60 = x_cv 63 137 2 8 := rfl
theorem t138_60 (C : xF) (s n : Nat) (z : xS) : x_to q_k138 C s (n + 1) 60 z = x_nx q_k138 C s n ((x_cv 63 137 2 8) C z) := x_to_at f138_60 C s n z
theorem f138_63 : x_fetch q_k138 63 = x_lda 64 0 := rfl
theorem t138_63 (C : xF) (s n : Nat) (z : xS) : x_to q_k138 C s (n + 1) 63 z = x_nx q_k138 C s n ((x_lda 64 0) C z) := x_to_at f138_63 C s n z
theorem f138_64 : x_fetch q_k138 64 = x_gf 67 8 34 := rfl
theorem t138_64 (C : xF) (s n : Nat) (z : xS) : x_to q_k138 C s (n + 1) 64 z = x_nx q_k138 C s n ((x_gf 67 8 34) C z) := x_to_at f138_64 C s n z
theorem f138_67 : x_fetch q_k138 67 = x_ldi 68 3 := rfl
theorem t138_67 (C : xF) (s n : Nat) (z : xS) : x_to q_k138 C s (n + 1) 67 z = x_nx q_k138 C s n ((x_ldi 68 3) C z) := x_to_at f138_67 C s n z
theorem f138_68 : x_fetch q_k138 68 = x_ldi 70 5 := rfl
theorem t138_68 (C : xF) (s n : Nat) (z : xS) : x_to q_k138 C s (n + 1) 68 z = x_nx q_k138 C s n ((x_ldi 70 5) C z) := x_to_at f138_68 C s n z
theorem f138_70 : x_fetch q_k138 70 = x_cl_ 73 101 1 := rfl
theorem t138_70 (C : xF) (s n : Nat) (z : xS) : x_to q_k138 C s (n + 1) 70 z = x_nx q_k138 C s n ((x_cl_ 73 101 1) C z) := x_to_at f138_70 C s n z
theorem f138_73 : x_fetch q_k138 73 = x_ast 74 0 (fun x => x) := rfl
theorem t138_73 (C : xF) (s n : Nat) (z : xS) : x_to q_k138 C s (n + 1) 73 z = x_nx q_k138 C s n ((x_ast 74 0 (fun x => x)) C z) := x_to_at f138_73 C s n z
theorem f138_74 : x_fetch q_k138 74 = x_iinc 77 3 (1) := rfl
theorem t138_74 (C : xF) (s n : Nat) (z : xS) : x_to q_k138 C s (n + 1) 74 z = x_nx q_k138 C s n ((x_iinc 77 3 (1)) C z) := x_to_at f138_74 C s n z
theorem f138_77 : x_fetch q_k138 77 = x_st (x_goto 163) := rfl
theorem t138_77 (C : xF) (s n : Nat) (z : xS) : x_to q_k138 C s (n + 1) 77 z = x_nx q_k138 C s n ((x_st (x_goto 163)) C z) := x_to_at f138_77 C s n z
theorem f138_80 : x_fetch q_k138 80 = x_ldi 81 3 := rfl
theorem t138_80 (C : xF) (s n : Nat) (z : xS) : x_to q_k138 C s (n + 1) 80 z = x_nx q_k138 C s n ((x_ldi 81 3) C z) := x_to_at f138_80 C s n z
theorem f138_81 : x_fetch q_k138 81 = x_st (x_ifle 88 84) := rfl
theorem t138_81 (C : xF) (s n : Nat) (z : xS) : x_to q_k138 C s (n + 1) 81 z = x_nx q_k138 C s n ((x_st (x_ifle 88 84)) C z) := x_to_at f138_81 C s n z
theorem f138_84 : x_fetch q_k138 84 = x_st (x_push 85 (.int (1))) := rfl
theorem t138_84 (C : xF) (s n : Nat) (z : xS) : x_to q_k138 C s (n + 1) 84 z = x_nx q_k138 C s n ((x_st (x_push 85 (.int (1)))) C z) := x_to_at f138_84 C s n z
theorem f138_85 : x_fetch q_k138 85 = x_st (x_goto 89) := rfl
theorem t138_85 (C : xF) (s n : Nat) (z : xS) : x_to q_k138 C s (n + 1) 85 z = x_nx q_k138 C s n ((x_st (x_goto 89)) C z) := x_to_at f138_85 C s n z
theorem f138_88 : x_fetch q_k138 88 = x_st (x_push 89 (.int (0))) := rfl
theorem t138_88 (C : xF) (s n : Nat) (z : xS) : x_to q_k138 C s (n + 1) 88 z = x_nx q_k138 C s n ((x_st (x_push 89 (.int (0)))) C z) := x_to_at f138_88 C s n z
theorem f138_89 : x_fetch q_k138 89 = x_sti 91 6 := rfl
theorem t138_89 (C : xF) (s n : Nat) (z : xS) : x_to q_k138 C s (n + 1) 89 z = x_nx q_k138 C s n ((x_sti 91 6) C z) := x_to_at f138_89 C s n z
theorem f138_91 : x_fetch q_k138 91 = x_ldi 93 6 := rfl
theorem t138_91 (C : xF) (s n : Nat) (z : xS) : x_to q_k138 C s (n + 1) 91 z = x_nx q_k138 C s n ((x_ldi 93 6) C z) := x_to_at f138_91 C s n z
theorem f138_93 : x_fetch q_k138 93 = x_st (x_ifeq 163 96) := rfl
theorem t138_93 (C : xF) (s n : Nat) (z : xS) : x_to q_k138 C s (n + 1) 93 z = x_nx q_k138 C s n ((x_st (x_ifeq 163 96)) C z) := x_to_at f138_93 C s n z
theorem f138_96 : x_fetch q_k138 96 = x_lda 97 0 := rfl
theorem t138_96 (C : xF) (s n : Nat) (z : xS) : x_to q_k138 C s (n + 1) 96 z = x_nx q_k138 C s n ((x_lda 97 0) C z) := x_to_at f138_96 C s n z
theorem f138_97 : x_fetch q_k138 97 = x_gf 100 8 34 := rfl
theorem t138_97 (C : xF) (s n : Nat) (z : xS) : x_to q_k138 C s (n + 1) 97 z = x_nx q_k138 C s n ((x_gf 100 8 34) C z) := x_to_at f138_97 C s n z
theorem f138_100 : x_fetch q_k138 100 = x_ldi 101 3 := rfl
theorem t138_100 (C : xF) (s n : Nat) (z : xS) : x_to q_k138 C s (n + 1) 100 z = x_nx q_k138 C s n ((x_ldi 101 3) C z) := x_to_at f138_100 C s n z
theorem f138_101 : x_fetch q_k138 101 = x_st (x_push 102 (.int (1))) := rfl
theorem t138_101 (C : xF) (s n : Nat) (z : xS) : x_to q_k138 C s (n + 1) 101 z = x_nx q_k138 C s n ((x_st (x_push 102 (.int (1)))) C z) := x_to_at f138_101 C s n z
theorem f138_102 : x_fetch q_k138 102 = x_st (x_bin 103 (fun a b => a - b)) := rfl
theorem t138_102 (C : xF) (s n : Nat) (z : xS) : x_to q_k138 C s (n + 1) 102 z = x_nx q_k138 C s n ((x_st (x_bin 103 (fun a b => a - b))) C z) := x_to_at f138_102 C s n z
theorem f138_103 : x_fetch q_k138 103 = x_st (x_dup2 104) := rfl
theorem t138_103 (C : xF) (s n : Nat) (z : xS) : x_to q_k138 C s (n + 1) 103 z = x_nx q_k138 C s n ((x_st (x_dup2 104)) C z) := x_to_at f138_103 C s n z
theorem f138_104 : x_fetch q_k138 104 = x_ald 105 0 := rfl
theorem t138_104 (C : xF) (s n : Nat) (z : xS) : x_to q_k138 C s (n + 1) 104 z = x_nx q_k138 C s n ((x_ald 105 0) C z) := x_to_at f138_104 C s n z
theorem f138_105 : x_fetch q_k138 105 = x_st (x_push 106 (.int (1))) := rfl
theorem t138_105 (C : xF) (s n : Nat) (z : xS) : x_to q_k138 C s (n + 1) 105 z = x_nx q_k138 C s n ((x_st (x_push 106 (.int (1)))) C z) := x_to_at f138_105 C s n z
theorem f138_106 : x_fetch q_k138 106 = x_st (x_bin 107 (fun a b => a - b)) := rfl
theorem t138_106 (C : xF) (s n : Nat) (z : xS) : x_to q_k138 C s (n + 1) 106 z = x_nx q_k138 C s n ((x_st (x_bin 107 (fun a b => a - b))) C z) := x_to_at f138_106 C s n z
theorem f138_107 : x_fetch q_k138 107 = x_ast 108 0 (fun x => x) := rfl
theorem t138_107 (C : xF) (s n : Nat) (z : xS) : x_to q_k138 C s (n + 1) 107 z = x_nx q_k138 C s n ((x_ast 108 0 (fun x => x)) C z) := x_to_at f138_107 C s n z
theorem f138_108 : x_fetch q_k138 108 = x_lda 109 0 := rfl
theorem t138_108 (C : xF) (s n : Nat) (z : xS) : x_to q_k138 C s (n + 1) 108 z = x_nx q_k138 C s n ((x_lda 109 0) C z) := x_to_at f138_108 C s n z
theorem f138_109 : x_fetch q_k138 109 = x_gf 112 8 34 := rfl
theorem t138_109 (C : xF) (s n : Nat) (z : xS) : x_to q_k138 C s (n + 1) 109 z = x_nx q_k138 C s n ((x_gf 112 8 34) C z) := x_to_at f138_109 C s n z
theorem f138_112 : x_fetch q_k138 112 = x_ldi 113 3 := rfl
theorem t138_112 (C : xF) (s n : Nat) (z : xS) : x_to q_k138 C s (n + 1) 112 z = x_nx q_k138 C s n ((x_ldi 113 3) C z) := x_to_at f138_112 C s n z
theorem f138_113 : x_fetch q_k138 113 = x_st (x_push 114 (.int (1))) := rfl
theorem t138_113 (C : xF) (s n : Nat) (z : xS) : x_to q_k138 C s (n + 1) 113 z = x_nx q_k138 C s n ((x_st (x_push 114 (.int (1)))) C z) := x_to_at f138_113 C s n z
theorem f138_114 : x_fetch q_k138 114 = x_st (x_bin 115 (fun a b => a - b)) := rfl
theorem t138_114 (C : xF) (s n : Nat) (z : xS) : x_to q_k138 C s (n + 1) 114 z = x_nx q_k138 C s n ((x_st (x_bin 115 (fun a b => a - b))) C z) := x_to_at f138_114 C s n z
theorem f138_115 : x_fetch q_k138 115 = x_ald 116 0 := rfl
theorem t138_115 (C : xF) (s n : Nat) (z : xS) : x_to q_k138 C s (n + 1) 115 z = x_nx q_k138 C s n ((x_ald 116 0) C z) := x_to_at f138_115 C s n z
theorem f138_116 : x_fetch q_k138 116 = x_st (x_ifne 123 119) := rfl
theorem t138_116 (C : xF) (s n : Nat) (z : xS) : x_to q_k138 C s (n + 1) 116 z = x_nx q_k138 C s n ((x_st (x_ifne 123 119)) C z) := x_to_at f138_116 C s n z
theorem f138_119 : x_fetch q_k138 119 = x_st (x_push 120 (.int (1))) := rfl
theorem t138_119 (C : xF) (s n : Nat) (z : xS) : x_to q_k138 C s (n + 1) 119 z = x_nx q_k138 C s n ((x_st (x_push 120 (.int (1)))) C z) := x_to_at f138_119 C s n z
theorem f138_120 : x_fetch q_k138 120 = x_st (x_goto 124) := rfl
theorem t138_120 (C : xF) (s n : Nat) (z : xS) : x_to q_k138 C s (n + 1) 120 z = x_nx q_k138 C s n ((x_st (x_goto 124)) C z) := x_to_at f138_120 C s n z
theorem f138_123 : x_fetch q_k138 123 = x_st (x_push 124 (.int (0))) := rfl
theorem t138_123 (C : xF) (s n : Nat) (z : xS) : x_to q_k138 C s (n + 1) 123 z = x_nx q_k138 C s n ((x_st (x_push 124 (.int (0)))) C z) := x_to_at f138_123 C s n z
theorem f138_124 : x_fetch q_k138 124 = x_sti 126 6 := rfl
theorem t138_124 (C : xF) (s n : Nat) (z : xS) : x_to q_k138 C s (n + 1) 124 z = x_nx q_k138 C s n ((x_sti 126 6) C z) := x_to_at f138_124 C s n z
theorem f138_126 : x_fetch q_k138 126 = x_ldi 128 6 := rfl
theorem t138_126 (C : xF) (s n : Nat) (z : xS) : x_to q_k138 C s (n + 1) 126 z = x_nx q_k138 C s n ((x_ldi 128 6) C z) := x_to_at f138_126 C s n z
theorem f138_128 : x_fetch q_k138 128 = x_st (x_ifeq 154 131) := rfl
theorem t138_128 (C : xF) (s n : Nat) (z : xS) : x_to q_k138 C s (n + 1) 128 z = x_nx q_k138 C s n ((x_st (x_ifeq 154 131)) C z) := x_to_at f138_128 C s n z
theorem f138_131 : x_fetch q_k138 131 = x_lda 132 0 := rfl
theorem t138_131 (C : xF) (s n : Nat) (z : xS) : x_to q_k138 C s (n + 1) 131 z = x_nx q_k138 C s n ((x_lda 132 0) C z) := x_to_at f138_131 C s n z
theorem f138_132 : x_fetch q_k138 132 = x_st (x_push 134 (.int (41))) := rfl
theorem t138_132 (C : xF) (s n : Nat) (z : xS) : x_to q_k138 C s (n + 1) 132 z = x_nx q_k138 C s n ((x_st (x_push 134 (.int (41)))) C z) := x_to_at f138_132 C s n z
theorem f138_134 : x_fetch q_k138 134 = x_cv 137 137 2 8 := rfl
theorem t138_134 (C : xF) (s n : Nat) (z : xS) : x_to q_k138 C s (n + 1) 134 z = x_nx q_k138 C s n ((x_cv 137 137 2 8) C z) := x_to_at f138_134 C s n z
theorem f138_137 : x_fetch q_k138 137 = x_iinc 140 3 (-1) := rfl
theorem t138_137 (C : xF) (s n : Nat) (z : xS) : x_to q_k138 C s (n + 1) 137 z = x_nx q_k138 C s n ((x_iinc 140 3 (-1)) C z) := x_to_at f138_137 C s n z
theorem f138_140 : x_fetch q_k138 140 = x_ldi 141 3 := rfl
theorem t138_140 (C : xF) (s n : Nat) (z : xS) : x_to q_k138 C s (n + 1) 140 z = x_nx q_k138 C s n ((x_ldi 141 3) C z) := x_to_at f138_140 C s n z
theorem f138_141 : x_fetch q_k138 141 = x_st (x_ifle 148 144) := rfl
theorem t138_141 (C : xF) (s n : Nat) (z : xS) : x_to q_k138 C s (n + 1) 141 z = x_nx q_k138 C s n ((x_st (x_ifle 148 144)) C z) := x_to_at f138_141 C s n z
theorem f138_144 : x_fetch q_k138 144 = x_st (x_push 145 (.int (1))) := rfl
theorem t138_144 (C : xF) (s n : Nat) (z : xS) : x_to q_k138 C s (n + 1) 144 z = x_nx q_k138 C s n ((x_st (x_push 145 (.int (1)))) C z) := x_to_at f138_144 C s n z
theorem f138_145 : x_fetch q_k138 145 = x_st (x_goto 149) := rfl
theorem t138_145 (C : xF) (s n : Nat) (z : xS) : x_to q_k138 C s (n + 1) 145 z = x_nx q_k138 C s n ((x_st (x_goto 149)) C z) := x_to_at f138_145 C s n z
theorem f138_148 : x_fetch q_k138 148 = x_st (x_push 149 (.int (0))) := rfl
theorem t138_148 (C : xF) (s n : Nat) (z : xS) : x_to q_k138 C s (n + 1) 148 z = x_nx q_k138 C s n ((x_st (x_push 149 (.int (0)))) C z) := x_to_at f138_148 C s n z
theorem f138_149 : x_fetch q_k138 149 = x_sti 151 6 := rfl
theorem t138_149 (C : xF) (s n : Nat) (z : xS) : x_to q_k138 C s (n + 1) 149 z = x_nx q_k138 C s n ((x_sti 151 6) C z) := x_to_at f138_149 C s n z
theorem f138_151 : x_fetch q_k138 151 = x_st (x_goto 91) := rfl
theorem t138_151 (C : xF) (s n : Nat) (z : xS) : x_to q_k138 C s (n + 1) 151 z = x_nx q_k138 C s n ((x_st (x_goto 91)) C z) := x_to_at f138_151 C s n z
theorem f138_154 : x_fetch q_k138 154 = x_lda 155 0 := rfl
theorem t138_154 (C : xF) (s n : Nat) (z : xS) : x_to q_k138 C s (n + 1) 154 z = x_nx q_k138 C s n ((x_lda 155 0) C z) := x_to_at f138_154 C s n z
theorem f138_155 : x_fetch q_k138 155 = x_st (x_push 157 (.int (44))) := rfl
theorem t138_155 (C : xF) (s n : Nat) (z : xS) : x_to q_k138 C s (n + 1) 155 z = x_nx q_k138 C s n ((x_st (x_push 157 (.int (44)))) C z) := x_to_at f138_155 C s n z
theorem f138_157 : x_fetch q_k138 157 = x_cv 160 137 2 8 := rfl
theorem t138_157 (C : xF) (s n : Nat) (z : xS) : x_to q_k138 C s (n + 1) 157 z = x_nx q_k138 C s n ((x_cv 160 137 2 8) C z) := x_to_at f138_157 C s n z
theorem f138_160 : x_fetch q_k138 160 = x_st (x_goto 91) := rfl
theorem t138_160 (C : xF) (s n : Nat) (z : xS) : x_to q_k138 C s (n + 1) 160 z = x_nx q_k138 C s n ((x_st (x_goto 91)) C z) := x_to_at f138_160 C s n z
theorem f138_163 : x_fetch q_k138 163 = x_iinc 166 4 (1) := rfl
theorem t138_163 (C : xF) (s n : Nat) (z : xS) : x_to q_k138 C s (n + 1) 163 z = x_nx q_k138 C s n ((x_iinc 166 4 (1)) C z) := x_to_at f138_163 C s n z
theorem f138_166 : x_fetch q_k138 166 = x_st (x_goto 5) := rfl
theorem t138_166 (C : xF) (s n : Nat) (z : xS) : x_to q_k138 C s (n + 1) 166 z = x_nx q_k138 C s n ((x_st (x_goto 5)) C z) := x_to_at f138_166 C s n z
theorem f138_169 : x_fetch q_k138 169 = x_rv := rfl
theorem t138_169 (C : xF) (s n : Nat) (z : xS) : x_to q_k138 C s (n + 1) 169 z = x_nx q_k138 C s n ((x_rv) C z) := x_to_at f138_169 C s n z
theorem f139_0 : x_fetch q_k139 0 = x_st (x_push 1 (.int (1))) := rfl
theorem t139_0 (C : xF) (s n : Nat) (z : xS) : x_to q_k139 C s (n + 1) 0 z = x_nx q_k139 C s n ((x_st (x_push 1 (.int (1)))) C z) := x_to_at f139_0 C s n z
theorem f139_1 : x_fetch q_k139 1 = x_sti 2 2 := rfl
theorem t139_1 (C : xF) (s n : Nat) (z : xS) : x_to q_k139 C s (n + 1) 1 z = x_nx q_k139 C s n ((x_sti 2 2) C z) := x_to_at f139_1 C s n z
theorem f139_2 : x_fetch q_k139 2 = x_ldi 3 1 := rfl
theorem t139_2 (C : xF) (s n : Nat) (z : xS) : x_to q_k139 C s (n + 1) 2 z = x_nx q_k139 C s n ((x_ldi 3 1) C z) := x_to_at f139_2 C s n z
theorem f139_3 : x_fetch q_k139 3 = x_sti 4 3 := rfl
theorem t139_3 (C : xF) (s n : Nat) (z : xS) : x_to q_k139 C s (n + 1) 3 z = x_nx q_k139 C s n ((x_sti 4 3) C z) := x_to_at f139_3 C s n z
theorem f139_4 : x_fetch q_k139 4 = x_ldi 5 2 := rfl
theorem t139_4 (C : xF) (s n : Nat) (z : xS) : x_to q_k139 C s (n + 1) 4 z = x_nx q_k139 C s n ((x_ldi 5 2) C z) := x_to_at f139_4 C s n z
theorem f139_5 : x_fetch q_k139 5 = x_st (x_ifle 28 8) := rfl
theorem t139_5 (C : xF) (s n : Nat) (z : xS) : x_to q_k139 C s (n + 1) 5 z = x_nx q_k139 C s n ((x_st (x_ifle 28 8)) C z) := x_to_at f139_5 C s n z
theorem f139_8 : x_fetch q_k139 8 = x_ldi 9 2 := rfl
theorem t139_8 (C : xF) (s n : Nat) (z : xS) : x_to q_k139 C s (n + 1) 8 z = x_nx q_k139 C s n ((x_ldi 9 2) C z) := x_to_at f139_8 C s n z
theorem f139_9 : x_fetch q_k139 9 = x_lda 10 0 := rfl
theorem t139_9 (C : xF) (s n : Nat) (z : xS) : x_to q_k139 C s (n + 1) 9 z = x_nx q_k139 C s n ((x_lda 10 0) C z) := x_to_at f139_9 C s n z
theorem f139_10 : x_fetch q_k139 10 = x_gf 13 8 3 := rfl
theorem t139_10 (C : xF) (s n : Nat) (z : xS) : x_to q_k139 C s (n + 1) 10 z = x_nx q_k139 C s n ((x_gf 13 8 3) C z) := x_to_at f139_10 C s n z
theorem f139_13 : x_fetch q_k139 13 = x_ldi 14 3 := rfl
theorem t139_13 (C : xF) (s n : Nat) (z : xS) : x_to q_k139 C s (n + 1) 13 z = x_nx q_k139 C s n ((x_ldi 14 3) C z) := x_to_at f139_13 C s n z
theorem f139_14 : x_fetch q_k139 14 = x_ald 15 0 := rfl
theorem t139_14 (C : xF) (s n : Nat) (z : xS) : x_to q_k139 C s (n + 1) 14 z = x_nx q_k139 C s n ((x_ald 15 0) C z) := x_to_at f139_14 C s n z
theorem f139_15 : x_fetch q_k139 15 = x_cl_ 18 101 1 := rfl
theorem t139_15 (C : xF) (s n : Nat) (z : xS) : x_to q_k139 C s (n + 1) 15 z = x_nx q_k139 C s n ((x_cl_ 18 101 1) C z) := x_to_at f139_15 C s n z
theorem f139_18 : x_fetch q_k139 18 = x_st (x_bin 19 (fun a b => a + b)) := rfl
theorem t139_18 (C : xF) (s n : Nat) (z : xS) : x_to q_k139 C s (n + 1) 18 z = x_nx q_k139 C s n ((x_st (x_bin 19 (fun a b => a + b))) C z) := x_to_at f139_18 C s n z
theorem f139_19 : x_fetch q_k139 19 = x_st (x_push 20 (.int (1))) := rfl
theorem t139_19 (C : xF) (s n : Nat) (z : xS) : x_to q_k139 C s (n + 1) 19 z = x_nx q_k139 C s n ((x_st (x_push 20 (.int (1)))) C z) := x_to_at f139_19 C s n z
theorem f139_20 : x_fetch q_k139 20 = x_st (x_bin 21 (fun a b => a - b)) := rfl
theorem t139_20 (C : xF) (s n : Nat) (z : xS) : x_to q_k139 C s (n + 1) 20 z = x_nx q_k139 C s n ((x_st (x_bin 21 (fun a b => a - b))) C z) := x_to_at f139_20 C s n z
theorem f139_21 : x_fetch q_k139 21 = x_sti 22 2 := rfl
theorem t139_21 (C : xF) (s n : Nat) (z : xS) : x_to q_k139 C s (n + 1) 21 z = x_nx q_k139 C s n ((x_sti 22 2) C z) := x_to_at f139_21 C s n z
theorem f139_22 : x_fetch q_k139 22 = x_iinc 25 3 (1) := rfl
theorem t139_22 (C : xF) (s n : Nat) (z : xS) : x_to q_k139 C s (n + 1) 22 z = x_nx q_k139 C s n ((x_iinc 25 3 (1)) C z) := x_to_at f139_22 C s n z
theorem f139_25 : x_fetch q_k139 25 = x_st (x_goto 4) := rfl
theorem t139_25 (C : xF) (s n : Nat) (z : xS) : x_to q_k139 C s (n + 1) 25 z = x_nx q_k139 C s n ((x_st (x_goto 4)) C z) := x_to_at f139_25 C s n z
theorem f139_28 : x_fetch q_k139 28 = x_ldi 29 3 := rfl
theorem t139_28 (C : xF) (s n : Nat) (z : xS) : x_to q_k139 C s (n + 1) 28 z = x_nx q_k139 C s n ((x_ldi 29 3) C z) := x_to_at f139_28 C s n z
theorem f139_29 : x_fetch q_k139 29 = x_ri (.int) := rfl
theorem t139_29 (C : xF) (s n : Nat) (z : xS) : x_to q_k139 C s (n + 1) 29 z = x_nx q_k139 C s n ((x_ri (.int)) C z) := x_to_at f139_29 C s n z
def ch1 (s : Int) : Int := if s < 99 then 65 + s else if s = 99 then 97 else 97 + (s - 100) / 4
def clz : List Nat → List Int × List Nat
  | [] => ([], [])
  | n :: K => if n ≤ 1 then (41 :: (clz K).1, (clz K).2) else ([44], (n - 1) :: K)
def goT : List Int → List Nat → List Int
  | [], _ => []
  | s :: t, K => ch1 s :: (if 0 < ar s then 40 :: goT t (ar s :: K) else (clz K).1 ++ goT t (clz K).2)
def stR (En : List Int) : List Nat → Prop
  | [] => True
  | n :: K => gZ En K.length = n ∧ 1 ≤ n ∧ n ≤ 3 ∧ stR En K
theorem stR.keep {En En' : List Int} : ∀ {K : List Nat}, stR En K → (∀ j : Nat, j < K.length → gZ En' j = gZ En j) → stR En' K
  | [], _, _ => True.intro
  | n :: K, h, e => ⟨by rw [e K.length (by simp)]; exact h.1, h.2.1, h.2.2.1, stR.keep h.2.2.2 (fun j hj => e j (by simp; omega))⟩
theorem clz_len : ∀ K : List Nat, (clz K).2.length ≤ K.length ∧ (clz K).1.length ≤ K.length + 1
  | [] => ⟨Nat.le_refl _, by simp [clz]⟩
  | n :: K => by
    have ih := clz_len K
    unfold clz
    split
    · simp only [List.length_cons]
      omega
    · simp only [List.length_cons, List.length_nil]
      omega
def TLs (m : Nat → Int) (L : List Int) (i : Int) : Prop := m 12 = L.length ∧ m 13 = i ∧ m 14 = if i < L.length then L.getD i.toNat 0 else -1
section TT
variable {w : Nat → xC} {N : Nat} {m : Nat → Int} {S L : List Int} {i : Int}
theorem m137 (d : Nat) (hN : 53 ≤ N) (hm : w 27 = .inr (8, mF m)) (hL : TLs m L i) (i0 : 0 ≤ i) (i9 : i < 2147483648) (l9 : L.length < 1000) (c : Int) :
    ∃ m' : Nat → Int, TLs m' (L ++ [c]) i ∧ (∀ q, q ≠ 12 → q ≠ 14 → m' q = m q) ∧ Xc (d + 1) 137 [.ref 30, .int (iZ c)] (hp w N) (none, hp (uH w 27 (.inr (8, mF m'))) N) := by
  obtain ⟨h1, h2, h3⟩ := hL
  have e : (L ++ [c]).length = L.length + 1 := by simp
  have hc : c1 (lv_args 0 [.ref 30, .int (iZ c)]) := by simp [c1, lv_args, Value.category]
  have l0 : x_lk (lv_args 0 [.ref 30, .int (iZ c)]) 0 = some (.ref 30) := rfl
  have l1 : x_lk (lv_args 0 [.ref 30, .int (iZ c)]) 1 = some (.int (iZ c)) := rfl
  obtain ⟨n, hn⟩ : ∃ n : Int, n = (L.length : Int) := ⟨_, rfl⟩
  rw [← hn] at h1
  have n0 : 0 ≤ n := by omega
  have n9 : n < 1000 := by omega
  by_cases he : n = i
  · refine ⟨st_ (st_ m 12 (n + 1)) 14 c, ⟨?_, ?_, ?_⟩, fun q q1 q2 => by rw [st_ne q2, st_ne q1], Xc.of rfl (by simp [lg_sl, Value.category]) ?_ (hp_le (Nat.le_refl _) (fun j _ => by (simp only [uH]; repeat' split) <;> simp_all [x_c1, mF_len]))⟩
    · rw [st_ne (by decide), st_at, e]
      omega
    · rw [st_ne (by decide), st_ne (by decide)]
      exact h2
    · rw [st_at, e, if_pos (by omega), getD_app, if_neg (by omega), show i.toNat - L.length = 0 by omega]
      rfl
    · generalize lv_args 0 [.ref 30, .int (iZ c)] = lv at hc l0 l1
      refine Gx.fin 60 Cs.tt (fun K _ => ?_)
      have h12 : m 12 = i := by omega
      rw [he]
      simp (disch := first | (refine c1_id ?_; assumption) | (refine c1_st rfl ?_; repeat (first | assumption | refine c1_st rfl ?_)) | omega) [nx_l, nx_r, nx_n, x_st, x_push, x_bin, x_div, x_un, x_dup, x_pop, x_dup2, x_goto, x_ifeq, x_ifne, x_iflt, x_ifge, x_ifgt, x_ifle, x_iceq, x_icne, x_iclt, x_icge, x_icgt, x_icle, x_ifnull, x_ifnonnull, x_ldi, x_lda, x_sti, x_sta, x_iinc, x_gf, x_pf, x_ald, x_ast, x_aln, x_len, x_cl_, x_cv, x_cs, x_rc, x_r0, x_isT, x_oi, x_rv, x_ri, x_ra, Value.category, t137_0, t137_1, t137_2, t137_5, t137_6, t137_9, t137_12, t137_13, t137_16, t137_17, t137_20, t137_23, t137_24, t137_25, t137_28, t137_29, t137_30, t137_33, lk_s, hp_get, hp_set, uH_at, uH_ne, uH_upd, uH_swap, iZ_add, iZ_sub, iZ_mul, iZ_neg, iZ_lt, iZ_le, iZ_eq, iZ_div, iZ_of, ix_Z, gZ_map, gZ_mapI, gZ_map', le_0, le_s, sZ_map, sZ_len, bZ_0, bZ_inj, bZ_t, bZ_f, nr_i, nr_0, nr_1, nr_b, ft_i, ft_b, ft_0, ft_1, zl_0, zl_1, mF_len, mg_0, mg_1, mg_2, mg_3, mg_4, mg_5, mg_6, mg_7, mg_8, mg_9, mg_10, mg_11, mg_12, mg_13, mg_14, mg_15, mg_16, mg_17, mg_18, mg_19, mg_20, mg_21, mg_22, mg_23, mg_24, mg_25, mg_26, mg_27, mg_28, mg_29, mg_30, mg_31, mg_32, mg_33, mg_34, mg_35, mg_36, mg_37, mg_38, ms_0, ms_1, ms_2, ms_13, ms_14, ms_15, ms_16, ms_21, ms_22, ms_23, ms_24, ms_28, ms_36, ms_37, ms_38, st_at, st_ne, st_st, st_swap, l0, l1, hm, h12, h2, -List.filter_filter, -List.getElem?_map, -List.getD_eq_getElem?_getD]
  · refine ⟨st_ (st_ m 12 (n + 1)) 14 (m 14), ⟨?_, ?_, ?_⟩, fun q q1 q2 => by rw [st_ne q2, st_ne q1], Xc.of rfl (by simp [lg_sl, Value.category]) ?_ (hp_le (Nat.le_refl _) (fun j _ => by (simp only [uH]; repeat' split) <;> simp_all [x_c1, mF_len]))⟩
    · rw [st_ne (by decide), st_at, e]
      omega
    · rw [st_ne (by decide), st_ne (by decide)]
      exact h2
    · rw [st_at, h3, e]
      by_cases hi : i < (L.length : Int)
      · rw [if_pos hi, if_pos (by omega), getD_app, if_pos (by omega)]
      · rw [if_neg hi, if_neg (by omega)]
    · generalize lv_args 0 [.ref 30, .int (iZ c)] = lv at hc l0 l1
      refine Gx.fin 60 Cs.tt (fun K _ => ?_)
      simp (disch := first | (refine c1_id ?_; assumption) | (refine c1_st rfl ?_; repeat (first | assumption | refine c1_st rfl ?_)) | omega) [nx_l, nx_r, nx_n, x_st, x_push, x_bin, x_div, x_un, x_dup, x_pop, x_dup2, x_goto, x_ifeq, x_ifne, x_iflt, x_ifge, x_ifgt, x_ifle, x_iceq, x_icne, x_iclt, x_icge, x_icgt, x_icle, x_ifnull, x_ifnonnull, x_ldi, x_lda, x_sti, x_sta, x_iinc, x_gf, x_pf, x_ald, x_ast, x_aln, x_len, x_cl_, x_cv, x_cs, x_rc, x_r0, x_isT, x_oi, x_rv, x_ri, x_ra, Value.category, t137_0, t137_1, t137_2, t137_5, t137_6, t137_9, t137_12, t137_13, t137_16, t137_17, t137_20, t137_23, t137_24, t137_25, t137_28, t137_29, t137_30, t137_33, lk_s, hp_get, hp_set, uH_at, uH_ne, uH_upd, uH_swap, iZ_add, iZ_sub, iZ_mul, iZ_neg, iZ_lt, iZ_le, iZ_eq, iZ_div, iZ_of, ix_Z, gZ_map, gZ_mapI, gZ_map', le_0, le_s, sZ_map, sZ_len, bZ_0, bZ_inj, bZ_t, bZ_f, nr_i, nr_0, nr_1, nr_b, ft_i, ft_b, ft_0, ft_1, zl_0, zl_1, mF_len, mg_0, mg_1, mg_2, mg_3, mg_4, mg_5, mg_6, mg_7, mg_8, mg_9, mg_10, mg_11, mg_12, mg_13, mg_14, mg_15, mg_16, mg_17, mg_18, mg_19, mg_20, mg_21, mg_22, mg_23, mg_24, mg_25, mg_26, mg_27, mg_28, mg_29, mg_30, mg_31, mg_32, mg_33, mg_34, mg_35, mg_36, mg_37, mg_38, ms_0, ms_1, ms_2, ms_13, ms_14, ms_15, ms_16, ms_21, ms_22, ms_23, ms_24, ms_28, ms_36, ms_37, ms_38, st_at, st_ne, st_st, st_swap, l0, l1, hm, h1, h2, he, -List.filter_filter, -List.getElem?_map, -List.getD_eq_getElem?_getD]
theorem l139 (d : Nat) (hN : 53 ≤ N) (hm : w 27 = .inr (8, mF m)) (hS : w 28 = cI 0 S) (hl : S.length < 10000) (hr : ∀ i, 0 ≤ gZ S i ∧ gZ S i < 100000) : ∀ (k : Nat) (t q : Int) (lv : xL), 0 ≤ t → 0 ≤ q → (tk t.toNat (S.drop q.toNat)).length = k → Ts t.toNat (tk t.toNat (S.drop q.toNat)) → c1 lv → x_lk lv 0 = some (.ref 30) → x_lk lv 2 = some (.int (iZ t)) → x_lk lv 3 = some (.int (iZ q)) →
    Gx q_k139 (d + 1) 4 (lv, [], hp w N) (some (.int (iZ (q + k))), hp w N) := by
  intro k
  induction k with
  | zero =>
    intro t q lv h0 h1 hk hT hc l0 l2 l3
    rw [List.eq_nil_of_length_eq_zero hk, Ts_nil] at hT
    obtain rfl : t = 0 := by omega
    refine Gx.fin 20 Cs.tt (fun C _ => ?_)
    simp (disch := first | (refine c1_id ?_; assumption) | (refine c1_st rfl ?_; repeat (first | assumption | refine c1_st rfl ?_)) | omega) [nx_l, nx_r, nx_n, x_st, x_push, x_bin, x_div, x_un, x_dup, x_pop, x_dup2, x_goto, x_ifeq, x_ifne, x_iflt, x_ifge, x_ifgt, x_ifle, x_iceq, x_icne, x_iclt, x_icge, x_icgt, x_icle, x_ifnull, x_ifnonnull, x_ldi, x_lda, x_sti, x_sta, x_iinc, x_gf, x_pf, x_ald, x_ast, x_aln, x_len, x_cl_, x_cv, x_cs, x_rc, x_r0, x_isT, x_oi, x_rv, x_ri, x_ra, Value.category, t139_0, t139_1, t139_2, t139_3, t139_4, t139_5, t139_8, t139_9, t139_10, t139_13, t139_14, t139_15, t139_18, t139_19, t139_20, t139_21, t139_22, t139_25, t139_28, t139_29, lk_s, hp_get, hp_set, uH_at, uH_ne, uH_upd, uH_swap, iZ_add, iZ_sub, iZ_mul, iZ_neg, iZ_lt, iZ_le, iZ_eq, iZ_div, iZ_of, ix_Z, gZ_map, gZ_mapI, gZ_map', le_0, le_s, sZ_map, sZ_len, bZ_0, bZ_inj, bZ_t, bZ_f, nr_i, nr_0, nr_1, nr_b, ft_i, ft_b, ft_0, ft_1, zl_0, zl_1, mF_len, mg_0, mg_1, mg_2, mg_3, mg_4, mg_5, mg_6, mg_7, mg_8, mg_9, mg_10, mg_11, mg_12, mg_13, mg_14, mg_15, mg_16, mg_17, mg_18, mg_19, mg_20, mg_21, mg_22, mg_23, mg_24, mg_25, mg_26, mg_27, mg_28, mg_29, mg_30, mg_31, mg_32, mg_33, mg_34, mg_35, mg_36, mg_37, mg_38, ms_0, ms_1, ms_2, ms_13, ms_14, ms_15, ms_16, ms_21, ms_22, ms_23, ms_24, ms_28, ms_36, ms_37, ms_38, st_at, st_ne, st_st, st_swap, l2, l3, -List.filter_filter, -List.getElem?_map, -List.getD_eq_getElem?_getD]
  | succ k ih =>
    intro t q lv h0 h1 hk hT hc l0 l2 l3
    obtain ⟨s1, s2, s3, s4, s5, s6⟩ := tk_step h0 h1 hk hT
    have hg := hr q
    have ha := ar_le (gZ S q)
    have mm := m101 d w N (gZ S q) (by omega) (by omega)
    have e9 : q + ((k + 1 : Nat) : Int) = q + 1 + (k : Int) := by omega
    rw [e9]
    refine Gx.run 40 mm (fun C mm => ?_) (ih (t + (ar (gZ S q) : Int) - 1) (q + 1) ((3, .int (iZ (q + 1))) :: List.filter (x_keep 3) ((2, .int (iZ (t + (ar (gZ S q) : Int) - 1))) :: List.filter (x_keep 2) lv)) s6 (by omega) s4 s5 (c1_st rfl (c1_st rfl hc)) ?_ ?_ ?_)
    · have b1 : ¬ t ≤ 0 := by omega
      simp (disch := first | (refine c1_id ?_; assumption) | (refine c1_st rfl ?_; repeat (first | assumption | refine c1_st rfl ?_)) | omega) [nx_l, nx_r, nx_n, x_st, x_push, x_bin, x_div, x_un, x_dup, x_pop, x_dup2, x_goto, x_ifeq, x_ifne, x_iflt, x_ifge, x_ifgt, x_ifle, x_iceq, x_icne, x_iclt, x_icge, x_icgt, x_icle, x_ifnull, x_ifnonnull, x_ldi, x_lda, x_sti, x_sta, x_iinc, x_gf, x_pf, x_ald, x_ast, x_aln, x_len, x_cl_, x_cv, x_cs, x_rc, x_r0, x_isT, x_oi, x_rv, x_ri, x_ra, Value.category, t139_0, t139_1, t139_2, t139_3, t139_4, t139_5, t139_8, t139_9, t139_10, t139_13, t139_14, t139_15, t139_18, t139_19, t139_20, t139_21, t139_22, t139_25, t139_28, t139_29, lk_s, hp_get, hp_set, uH_at, uH_ne, uH_upd, uH_swap, iZ_add, iZ_sub, iZ_mul, iZ_neg, iZ_lt, iZ_le, iZ_eq, iZ_div, iZ_of, ix_Z, gZ_map, gZ_mapI, gZ_map', le_0, le_s, sZ_map, sZ_len, bZ_0, bZ_inj, bZ_t, bZ_f, nr_i, nr_0, nr_1, nr_b, ft_i, ft_b, ft_0, ft_1, zl_0, zl_1, mF_len, mg_0, mg_1, mg_2, mg_3, mg_4, mg_5, mg_6, mg_7, mg_8, mg_9, mg_10, mg_11, mg_12, mg_13, mg_14, mg_15, mg_16, mg_17, mg_18, mg_19, mg_20, mg_21, mg_22, mg_23, mg_24, mg_25, mg_26, mg_27, mg_28, mg_29, mg_30, mg_31, mg_32, mg_33, mg_34, mg_35, mg_36, mg_37, mg_38, ms_0, ms_1, ms_2, ms_13, ms_14, ms_15, ms_16, ms_21, ms_22, ms_23, ms_24, ms_28, ms_36, ms_37, ms_38, st_at, st_ne, st_st, st_swap, l0, l2, l3, hm, hS, mm, b1, -List.filter_filter, -List.getElem?_map, -List.getD_eq_getElem?_getD]
    · rw [lk_s (c1_st rfl hc), lk_s hc]; exact l0
    · rw [lk_s (c1_st rfl hc), lk_s hc]; rfl
    · rw [lk_s (c1_st rfl hc)]; rfl
theorem m139 (d : Nat) (hN : 53 ≤ N) (hm : w 27 = .inr (8, mF m)) (hS : w 28 = cI 0 S) (hl : S.length < 10000) (hr : ∀ i, 0 ≤ gZ S i ∧ gZ S i < 100000) (p : Int) (h0 : 0 ≤ p) (hT : Ts 1 (tm S p.toNat)) :
    Xc (d + 2) 139 [.ref 30, .int (iZ p)] (hp w N) (some (.int (iZ (p + (tm S p.toNat).length))), hp w N) := by
  refine Xc.of rfl (by simp [lg_sl, Value.category]) ?_ x_le.rf
  have hc : c1 (lv_args 0 [.ref 30, .int (iZ p)]) := by simp [c1, lv_args, Value.category]
  have l0 : x_lk (lv_args 0 [.ref 30, .int (iZ p)]) 0 = some (.ref 30) := rfl
  have l1 : x_lk (lv_args 0 [.ref 30, .int (iZ p)]) 1 = some (.int (iZ p)) := rfl
  generalize lv_args 0 [.ref 30, .int (iZ p)] = lv at hc l0 l1
  refine Gx.run 20 Cs.tt (fun C _ => ?_) (l139 d hN hm hS hl hr (tm S p.toNat).length 1 p ((3, .int (iZ p)) :: List.filter (x_keep 3) ((2, .int (iZ 1)) :: List.filter (x_keep 2) lv)) (by omega) h0 rfl hT (c1_st rfl (c1_st rfl hc)) ?_ ?_ ?_)
  · simp (disch := first | (refine c1_id ?_; assumption) | (refine c1_st rfl ?_; repeat (first | assumption | refine c1_st rfl ?_)) | omega) [nx_l, nx_r, nx_n, x_st, x_push, x_bin, x_div, x_un, x_dup, x_pop, x_dup2, x_goto, x_ifeq, x_ifne, x_iflt, x_ifge, x_ifgt, x_ifle, x_iceq, x_icne, x_iclt, x_icge, x_icgt, x_icle, x_ifnull, x_ifnonnull, x_ldi, x_lda, x_sti, x_sta, x_iinc, x_gf, x_pf, x_ald, x_ast, x_aln, x_len, x_cl_, x_cv, x_cs, x_rc, x_r0, x_isT, x_oi, x_rv, x_ri, x_ra, Value.category, t139_0, t139_1, t139_2, t139_3, t139_4, t139_5, t139_8, t139_9, t139_10, t139_13, t139_14, t139_15, t139_18, t139_19, t139_20, t139_21, t139_22, t139_25, t139_28, t139_29, lk_s, hp_get, hp_set, uH_at, uH_ne, uH_upd, uH_swap, iZ_add, iZ_sub, iZ_mul, iZ_neg, iZ_lt, iZ_le, iZ_eq, iZ_div, iZ_of, ix_Z, gZ_map, gZ_mapI, gZ_map', le_0, le_s, sZ_map, sZ_len, bZ_0, bZ_inj, bZ_t, bZ_f, nr_i, nr_0, nr_1, nr_b, ft_i, ft_b, ft_0, ft_1, zl_0, zl_1, mF_len, mg_0, mg_1, mg_2, mg_3, mg_4, mg_5, mg_6, mg_7, mg_8, mg_9, mg_10, mg_11, mg_12, mg_13, mg_14, mg_15, mg_16, mg_17, mg_18, mg_19, mg_20, mg_21, mg_22, mg_23, mg_24, mg_25, mg_26, mg_27, mg_28, mg_29, mg_30, mg_31, mg_32, mg_33, mg_34, mg_35, mg_36, mg_37, mg_38, ms_0, ms_1, ms_2, ms_13, ms_14, ms_15, ms_16, ms_21, ms_22, ms_23, ms_24, ms_28, ms_36, ms_37, ms_38, st_at, st_ne, st_st, st_swap, l0, l1, -List.filter_filter, -List.getElem?_map, -List.getD_eq_getElem?_getD]
  · rw [lk_s (c1_st rfl hc), lk_s hc]; exact l0
  · rw [lk_s (c1_st rfl hc), lk_s hc]; rfl
  · rw [lk_s (c1_st rfl hc)]; rfl

def ksE : List Nat := [27, 50]
def lE (lv : xL) (to q o : Int) : Prop := c1 lv ∧ x_lk lv 0 = some (.ref 30) ∧ x_lk lv 2 = some (.int (iZ to)) ∧ x_lk lv 3 = some (.int (iZ o)) ∧ x_lk lv 4 = some (.int (iZ q))
def mE (m m' : Nat → Int) : Prop := ∀ q, q ≠ 12 → q ≠ 14 → m' q = m q
theorem mE.tr {m m' m'' : Nat → Int} (h : mE m m') (g : mE m' m'') : mE m m'' := fun q a b => (g q a b).trans (h q a b)
theorem l138c (d : Nat) (hN : 53 ≤ N) (i0 : 0 ≤ i) (i9 : i < 2147483648) (to q : Int) : ∀ (K : List Nat) (w : Nat → xC) (m : Nat → Int) (En L : List Int) (lv : xL), w 27 = .inr (8, mF m) → w 50 = cI 0 En → En.length = 400 → stR En K → TLs m L i → L.length + K.length < 900 → K.length < 300 → lE lv to q K.length → x_lk lv 6 = some (.int (iZ (bZ (decide (0 < K.length))))) → ∃ (w' : Nat → xC) (m' : Nat → Int) (En' : List Int) (lv' : xL), Fr ksE w w' ∧ w' 27 = .inr (8, mF m') ∧ w' 50 = cI 0 En' ∧ En'.length = 400 ∧ mE m m' ∧ stR En' (clz K).2 ∧ TLs m' (L ++ (clz K).1) i ∧ lE lv' to q (clz K).2.length ∧ ∀ res, Gx q_k138 (d + 1) 163 (lv', [], hp w' N) res → Gx q_k138 (d + 1) 91 (lv, [], hp w N) res := by
  intro K
  induction K with
  | nil =>
    intro w m En L lv hm hE nE hs hL h9 hK hl l6
    refine ⟨w, m, En, lv, Fr.rf _ _, hm, hE, nE, fun _ _ _ => rfl, hs, by show TLs m (L ++ []) i; rw [List.append_nil]; exact hL, hl, fun res hg => Gx.run 20 Cs.tt (fun C _ => ?_) hg⟩
    obtain ⟨hc, p0, p2, p3, p4⟩ := hl
    have l6' : x_lk lv 6 = some (.int (iZ 0)) := l6
    simp (disch := first | (refine c1_id ?_; assumption) | (refine c1_st rfl ?_; repeat (first | assumption | refine c1_st rfl ?_)) | omega) [nx_l, nx_r, nx_n, x_st, x_push, x_bin, x_div, x_un, x_dup, x_pop, x_dup2, x_goto, x_ifeq, x_ifne, x_iflt, x_ifge, x_ifgt, x_ifle, x_iceq, x_icne, x_iclt, x_icge, x_icgt, x_icle, x_ifnull, x_ifnonnull, x_ldi, x_lda, x_sti, x_sta, x_iinc, x_gf, x_pf, x_ald, x_ast, x_aln, x_len, x_cl_, x_cv, x_cs, x_rc, x_r0, x_isT, x_oi, x_rv, x_ri, x_ra, Value.category, t138_0, t138_1, t138_2, t138_3, t138_5, t138_7, t138_8, t138_11, t138_12, t138_15, t138_17, t138_18, t138_20, t138_21, t138_23, t138_25, t138_28, t138_30, t138_32, t138_33, t138_36, t138_38, t138_40, t138_42, t138_43, t138_44, t138_45, t138_46, t138_49, t138_51, t138_54, t138_57, t138_58, t138_60, t138_63, t138_64, t138_67, t138_68, t138_70, t138_73, t138_74, t138_77, t138_80, t138_81, t138_84, t138_85, t138_88, t138_89, t138_91, t138_93, t138_96, t138_97, t138_100, t138_101, t138_102, t138_103, t138_104, t138_105, t138_106, t138_107, t138_108, t138_109, t138_112, t138_113, t138_114, t138_115, t138_116, t138_119, t138_120, t138_123, t138_124, t138_126, t138_128, t138_131, t138_132, t138_134, t138_137, t138_140, t138_141, t138_144, t138_145, t138_148, t138_149, t138_151, t138_154, t138_155, t138_157, t138_160, t138_163, t138_166, t138_169, lk_s, hp_get, hp_set, uH_at, uH_ne, uH_upd, uH_swap, iZ_add, iZ_sub, iZ_mul, iZ_neg, iZ_lt, iZ_le, iZ_eq, iZ_div, iZ_of, ix_Z, gZ_map, gZ_mapI, gZ_map', le_0, le_s, sZ_map, sZ_len, bZ_0, bZ_inj, bZ_t, bZ_f, nr_i, nr_0, nr_1, nr_b, ft_i, ft_b, ft_0, ft_1, zl_0, zl_1, zl_4, zl_40, zl_41, zl_44, zl_65, zl_97, zl_99, zl_100, mF_len, mg_0, mg_1, mg_2, mg_3, mg_4, mg_5, mg_6, mg_7, mg_8, mg_9, mg_10, mg_11, mg_12, mg_13, mg_14, mg_15, mg_16, mg_17, mg_18, mg_19, mg_20, mg_21, mg_22, mg_23, mg_24, mg_25, mg_26, mg_27, mg_28, mg_29, mg_30, mg_31, mg_32, mg_33, mg_34, mg_35, mg_36, mg_37, mg_38, ms_0, ms_1, ms_2, ms_13, ms_14, ms_15, ms_16, ms_21, ms_22, ms_23, ms_24, ms_28, ms_36, ms_37, ms_38, st_at, st_ne, st_st, st_swap, p0, l6', -List.filter_filter, -List.getElem?_map, -List.getD_eq_getElem?_getD]
  | cons n K ih =>
    intro w m En L lv hm hE nE hs hL h9 hK hl l6
    simp only [List.length_cons] at h9 hK
    obtain ⟨e1, e2, e3, e4⟩ := hs
    have l6' : x_lk lv 6 = some (.int (iZ 1)) := l6
    obtain ⟨hc, p0, p2, p3, p4⟩ := id hl
    rw [show (((n :: K).length : Nat) : Int) = (K.length : Int) + 1 by simp] at p3
    have eo : (K.length : Int) + 1 - 1 = (K.length : Int) := by omega
    obtain ⟨w1, hw1⟩ : ∃ w1, w1 = uH w 50 (cI 0 (sZ En K.length ((n : Int) - 1))) := ⟨_, rfl⟩
    have hm1 : w1 27 = .inr (8, mF m) := by rw [hw1, uH_ne (by decide)]; exact hm
    have hE1 : w1 50 = cI 0 (sZ En K.length ((n : Int) - 1)) := by rw [hw1, uH_at]
    have nE1 : (sZ En K.length ((n : Int) - 1)).length = 400 := by rw [sZ_len]; exact nE
    have F1 : Fr ksE w w1 := by rw [hw1]; exact (Fr.rf _ _).up (by decide)
    have eA : ∀ j : Nat, gZ (sZ En K.length ((n : Int) - 1)) j = if (K.length : Int) = (j : Int) then (n : Int) - 1 else gZ En j := fun j => gZ_sZ (by omega) (by omega) (by omega)
    have nr : (n : Int) ≤ 3 := by omega
    have nr1 : (1 : Int) ≤ n := by omega
    have kr : (K.length : Int) < 300 := by omega
    have kr0 : (0 : Int) ≤ K.length := by omega
    by_cases hn : n ≤ 1
    · have n1 : n = 1 := by omega
      subst n1
      have ez : clz (1 :: K) = (41 :: (clz K).1, (clz K).2) := by
        show (if 1 ≤ 1 then _ else _) = _
        rw [if_pos (by decide)]
      rw [ez]
      obtain ⟨m2, t1, t2, X⟩ := m137 (w := w1) d hN hm1 hL i0 i9 (by omega) 41
      obtain ⟨w2, hw2⟩ : ∃ w2, w2 = uH w1 27 (.inr (8, mF m2)) := ⟨_, rfl⟩
      rw [← hw2] at X
      have hm2 : w2 27 = .inr (8, mF m2) := by rw [hw2, uH_at]
      have hE2 : w2 50 = cI 0 (sZ En K.length (((1 : Nat) : Int) - 1)) := by rw [hw2, uH_ne (by decide)]; exact hE1
      have F2 : Fr ksE w w2 := by rw [hw2]; exact F1.up (by decide)
      have C6 := c1_st (i := 6) (v := .int (iZ 1)) rfl hc
      have C3 := c1_st (i := 3) (v := .int (iZ (K.length : Int))) rfl C6
      have D6 := c1_st (i := 6) (v := .int (iZ (bZ (decide (0 < K.length))))) rfl C3
      obtain ⟨w', m', En', lv', a1, a2, a3, a4, a5, a6, a7, a8, a9⟩ := ih w2 m2 _ (L ++ [41]) ((6, .int (iZ (bZ (decide (0 < K.length))))) :: List.filter (x_keep 6) ((3, .int (iZ (K.length : Int))) :: List.filter (x_keep 3) ((6, .int (iZ 1)) :: lv.filter (x_keep 6)))) hm2 hE2 nE1 (e4.keep (fun j hj => by rw [eA j, if_neg (by omega)])) t1 (by simp; omega) (by omega) ⟨D6, by rw [lk_s C3, lk_s C6, lk_s hc]; exact p0, by rw [lk_s C3, lk_s C6, lk_s hc]; exact p2, by rw [lk_s C3, lk_s C6]; rfl, by rw [lk_s C3, lk_s C6, lk_s hc]; exact p4⟩ (by rw [lk_s C3]; rfl)
      refine ⟨w', m', En', lv', F2.tr a1, a2, a3, a4, mE.tr t2 a5, a6, by rw [List.append_assoc] at a7; exact a7, a8, fun res hg => ?_⟩
      have g131 : Gx q_k138 (d + 1) 131 ((6, .int (iZ 1)) :: lv.filter (x_keep 6), [], hp w1 N) res := by
        refine Gx.run 40 X (fun C mm => ?_) (a9 res hg)
        have ee : (K.length : Int) + 1 + -1 = (K.length : Int) := by omega
        by_cases hk0 : 0 < K.length
        · have b1 : ¬ (K.length : Int) ≤ 0 := by omega
          rw [decide_eq_true hk0]
          obtain ⟨kk, hkk⟩ : ∃ kk : Int, kk = (K.length : Int) := ⟨_, rfl⟩
          rw [← hkk] at p3 b1 ee kr kr0 ⊢
          simp (disch := first | (refine c1_id ?_; assumption) | (refine c1_st rfl ?_; repeat (first | assumption | refine c1_st rfl ?_)) | omega) [nx_l, nx_r, nx_n, x_st, x_push, x_bin, x_div, x_un, x_dup, x_pop, x_dup2, x_goto, x_ifeq, x_ifne, x_iflt, x_ifge, x_ifgt, x_ifle, x_iceq, x_icne, x_iclt, x_icge, x_icgt, x_icle, x_ifnull, x_ifnonnull, x_ldi, x_lda, x_sti, x_sta, x_iinc, x_gf, x_pf, x_ald, x_ast, x_aln, x_len, x_cl_, x_cv, x_cs, x_rc, x_r0, x_isT, x_oi, x_rv, x_ri, x_ra, Value.category, t138_0, t138_1, t138_2, t138_3, t138_5, t138_7, t138_8, t138_11, t138_12, t138_15, t138_17, t138_18, t138_20, t138_21, t138_23, t138_25, t138_28, t138_30, t138_32, t138_33, t138_36, t138_38, t138_40, t138_42, t138_43, t138_44, t138_45, t138_46, t138_49, t138_51, t138_54, t138_57, t138_58, t138_60, t138_63, t138_64, t138_67, t138_68, t138_70, t138_73, t138_74, t138_77, t138_80, t138_81, t138_84, t138_85, t138_88, t138_89, t138_91, t138_93, t138_96, t138_97, t138_100, t138_101, t138_102, t138_103, t138_104, t138_105, t138_106, t138_107, t138_108, t138_109, t138_112, t138_113, t138_114, t138_115, t138_116, t138_119, t138_120, t138_123, t138_124, t138_126, t138_128, t138_131, t138_132, t138_134, t138_137, t138_140, t138_141, t138_144, t138_145, t138_148, t138_149, t138_151, t138_154, t138_155, t138_157, t138_160, t138_163, t138_166, t138_169, lk_s, hp_get, hp_set, uH_at, uH_ne, uH_upd, uH_swap, iZ_add, iZ_sub, iZ_mul, iZ_neg, iZ_lt, iZ_le, iZ_eq, iZ_div, iZ_of, ix_Z, gZ_map, gZ_mapI, gZ_map', le_0, le_s, sZ_map, sZ_len, bZ_0, bZ_inj, bZ_t, bZ_f, nr_i, nr_0, nr_1, nr_b, ft_i, ft_b, ft_0, ft_1, zl_0, zl_1, zl_4, zl_40, zl_41, zl_44, zl_65, zl_97, zl_99, zl_100, mF_len, mg_0, mg_1, mg_2, mg_3, mg_4, mg_5, mg_6, mg_7, mg_8, mg_9, mg_10, mg_11, mg_12, mg_13, mg_14, mg_15, mg_16, mg_17, mg_18, mg_19, mg_20, mg_21, mg_22, mg_23, mg_24, mg_25, mg_26, mg_27, mg_28, mg_29, mg_30, mg_31, mg_32, mg_33, mg_34, mg_35, mg_36, mg_37, mg_38, ms_0, ms_1, ms_2, ms_13, ms_14, ms_15, ms_16, ms_21, ms_22, ms_23, ms_24, ms_28, ms_36, ms_37, ms_38, st_at, st_ne, st_st, st_swap, p0, p3, hm1, mm, ee, b1, -List.filter_filter, -List.getElem?_map, -List.getD_eq_getElem?_getD]
        · have b1 : (K.length : Int) ≤ 0 := by omega
          rw [decide_eq_false hk0]
          obtain ⟨kk, hkk⟩ : ∃ kk : Int, kk = (K.length : Int) := ⟨_, rfl⟩
          rw [← hkk] at p3 b1 ee kr kr0 ⊢
          simp (disch := first | (refine c1_id ?_; assumption) | (refine c1_st rfl ?_; repeat (first | assumption | refine c1_st rfl ?_)) | omega) [nx_l, nx_r, nx_n, x_st, x_push, x_bin, x_div, x_un, x_dup, x_pop, x_dup2, x_goto, x_ifeq, x_ifne, x_iflt, x_ifge, x_ifgt, x_ifle, x_iceq, x_icne, x_iclt, x_icge, x_icgt, x_icle, x_ifnull, x_ifnonnull, x_ldi, x_lda, x_sti, x_sta, x_iinc, x_gf, x_pf, x_ald, x_ast, x_aln, x_len, x_cl_, x_cv, x_cs, x_rc, x_r0, x_isT, x_oi, x_rv, x_ri, x_ra, Value.category, t138_0, t138_1, t138_2, t138_3, t138_5, t138_7, t138_8, t138_11, t138_12, t138_15, t138_17, t138_18, t138_20, t138_21, t138_23, t138_25, t138_28, t138_30, t138_32, t138_33, t138_36, t138_38, t138_40, t138_42, t138_43, t138_44, t138_45, t138_46, t138_49, t138_51, t138_54, t138_57, t138_58, t138_60, t138_63, t138_64, t138_67, t138_68, t138_70, t138_73, t138_74, t138_77, t138_80, t138_81, t138_84, t138_85, t138_88, t138_89, t138_91, t138_93, t138_96, t138_97, t138_100, t138_101, t138_102, t138_103, t138_104, t138_105, t138_106, t138_107, t138_108, t138_109, t138_112, t138_113, t138_114, t138_115, t138_116, t138_119, t138_120, t138_123, t138_124, t138_126, t138_128, t138_131, t138_132, t138_134, t138_137, t138_140, t138_141, t138_144, t138_145, t138_148, t138_149, t138_151, t138_154, t138_155, t138_157, t138_160, t138_163, t138_166, t138_169, lk_s, hp_get, hp_set, uH_at, uH_ne, uH_upd, uH_swap, iZ_add, iZ_sub, iZ_mul, iZ_neg, iZ_lt, iZ_le, iZ_eq, iZ_div, iZ_of, ix_Z, gZ_map, gZ_mapI, gZ_map', le_0, le_s, sZ_map, sZ_len, bZ_0, bZ_inj, bZ_t, bZ_f, nr_i, nr_0, nr_1, nr_b, ft_i, ft_b, ft_0, ft_1, zl_0, zl_1, zl_4, zl_40, zl_41, zl_44, zl_65, zl_97, zl_99, zl_100, mF_len, mg_0, mg_1, mg_2, mg_3, mg_4, mg_5, mg_6, mg_7, mg_8, mg_9, mg_10, mg_11, mg_12, mg_13, mg_14, mg_15, mg_16, mg_17, mg_18, mg_19, mg_20, mg_21, mg_22, mg_23, mg_24, mg_25, mg_26, mg_27, mg_28, mg_29, mg_30, mg_31, mg_32, mg_33, mg_34, mg_35, mg_36, mg_37, mg_38, ms_0, ms_1, ms_2, ms_13, ms_14, ms_15, ms_16, ms_21, ms_22, ms_23, ms_24, ms_28, ms_36, ms_37, ms_38, st_at, st_ne, st_st, st_swap, p0, p3, hm1, mm, ee, b1, -List.filter_filter, -List.getElem?_map, -List.getD_eq_getElem?_getD]
      refine Gx.run 60 Cs.tt (fun C _ => ?_) g131
      have e1' : gZ En (K.length : Int) = 1 := e1
      have ea : gZ (sZ En (K.length : Int) 0) (K.length : Int) = 0 := by rw [gZ_sZ (by omega) (by omega) (by omega), if_pos rfl]
      rw [hw1]
      simp (disch := first | (refine c1_id ?_; assumption) | (refine c1_st rfl ?_; repeat (first | assumption | refine c1_st rfl ?_)) | omega) [nx_l, nx_r, nx_n, x_st, x_push, x_bin, x_div, x_un, x_dup, x_pop, x_dup2, x_goto, x_ifeq, x_ifne, x_iflt, x_ifge, x_ifgt, x_ifle, x_iceq, x_icne, x_iclt, x_icge, x_icgt, x_icle, x_ifnull, x_ifnonnull, x_ldi, x_lda, x_sti, x_sta, x_iinc, x_gf, x_pf, x_ald, x_ast, x_aln, x_len, x_cl_, x_cv, x_cs, x_rc, x_r0, x_isT, x_oi, x_rv, x_ri, x_ra, Value.category, t138_0, t138_1, t138_2, t138_3, t138_5, t138_7, t138_8, t138_11, t138_12, t138_15, t138_17, t138_18, t138_20, t138_21, t138_23, t138_25, t138_28, t138_30, t138_32, t138_33, t138_36, t138_38, t138_40, t138_42, t138_43, t138_44, t138_45, t138_46, t138_49, t138_51, t138_54, t138_57, t138_58, t138_60, t138_63, t138_64, t138_67, t138_68, t138_70, t138_73, t138_74, t138_77, t138_80, t138_81, t138_84, t138_85, t138_88, t138_89, t138_91, t138_93, t138_96, t138_97, t138_100, t138_101, t138_102, t138_103, t138_104, t138_105, t138_106, t138_107, t138_108, t138_109, t138_112, t138_113, t138_114, t138_115, t138_116, t138_119, t138_120, t138_123, t138_124, t138_126, t138_128, t138_131, t138_132, t138_134, t138_137, t138_140, t138_141, t138_144, t138_145, t138_148, t138_149, t138_151, t138_154, t138_155, t138_157, t138_160, t138_163, t138_166, t138_169, lk_s, hp_get, hp_set, uH_at, uH_ne, uH_upd, uH_swap, iZ_add, iZ_sub, iZ_mul, iZ_neg, iZ_lt, iZ_le, iZ_eq, iZ_div, iZ_of, ix_Z, gZ_map, gZ_mapI, gZ_map', le_0, le_s, sZ_map, sZ_len, bZ_0, bZ_inj, bZ_t, bZ_f, nr_i, nr_0, nr_1, nr_b, ft_i, ft_b, ft_0, ft_1, zl_0, zl_1, zl_4, zl_40, zl_41, zl_44, zl_65, zl_97, zl_99, zl_100, mF_len, mg_0, mg_1, mg_2, mg_3, mg_4, mg_5, mg_6, mg_7, mg_8, mg_9, mg_10, mg_11, mg_12, mg_13, mg_14, mg_15, mg_16, mg_17, mg_18, mg_19, mg_20, mg_21, mg_22, mg_23, mg_24, mg_25, mg_26, mg_27, mg_28, mg_29, mg_30, mg_31, mg_32, mg_33, mg_34, mg_35, mg_36, mg_37, mg_38, ms_0, ms_1, ms_2, ms_13, ms_14, ms_15, ms_16, ms_21, ms_22, ms_23, ms_24, ms_28, ms_36, ms_37, ms_38, st_at, st_ne, st_st, st_swap, p0, p3, l6', hm, hE, eo, e1', ea, -List.filter_filter, -List.getElem?_map, -List.getD_eq_getElem?_getD]
    · have ez : clz (n :: K) = ([44], (n - 1) :: K) := by
        show (if n ≤ 1 then _ else _) = _
        rw [if_neg hn]
      rw [ez]
      obtain ⟨m2, t1, t2, X⟩ := m137 (w := w1) d hN hm1 hL i0 i9 (by omega) 44
      obtain ⟨w2, hw2⟩ : ∃ w2, w2 = uH w1 27 (.inr (8, mF m2)) := ⟨_, rfl⟩
      rw [← hw2] at X
      have hm2 : w2 27 = .inr (8, mF m2) := by rw [hw2, uH_at]
      have hE2 : w2 50 = cI 0 (sZ En K.length ((n : Int) - 1)) := by rw [hw2, uH_ne (by decide)]; exact hE1
      have F2 : Fr ksE w w2 := by rw [hw2]; exact F1.up (by decide)
      have C6 := c1_st (i := 6) (v := .int (iZ 0)) rfl hc
      refine ⟨w2, m2, _, (6, .int (iZ 0)) :: lv.filter (x_keep 6), F2, hm2, hE2, nE1, t2, ⟨?_, by omega, by omega, e4.keep (fun j hj => by rw [eA j, if_neg (by omega)])⟩, t1, ⟨C6, by rw [lk_s hc]; exact p0, by rw [lk_s hc]; exact p2, ?_, by rw [lk_s hc]; exact p4⟩, fun res hg => ?_⟩
      · rw [eA, if_pos rfl]
        omega
      · rw [lk_s hc]
        show x_lk lv 3 = some (.int (iZ ((((n - 1) :: K).length : Nat) : Int)))
        rw [p3, show ((((n - 1) :: K).length : Nat) : Int) = (K.length : Int) + 1 by simp]
      · have hg2 : Gx q_k138 (d + 1) 91 ((6, .int (iZ 0)) :: lv.filter (x_keep 6), [], hp w2 N) res := by
          have q6 : x_lk ((6, .int (iZ 0)) :: lv.filter (x_keep 6)) 6 = some (.int (iZ 0)) := by rw [lk_s hc]; rfl
          generalize ((6, .int (iZ 0)) :: lv.filter (x_keep 6) : xL) = lvq at C6 q6 hg
          refine Gx.run 20 Cs.tt (fun C _ => ?_) hg
          simp (disch := first | (refine c1_id ?_; assumption) | (refine c1_st rfl ?_; repeat (first | assumption | refine c1_st rfl ?_)) | omega) [nx_l, nx_r, nx_n, x_st, x_push, x_bin, x_div, x_un, x_dup, x_pop, x_dup2, x_goto, x_ifeq, x_ifne, x_iflt, x_ifge, x_ifgt, x_ifle, x_iceq, x_icne, x_iclt, x_icge, x_icgt, x_icle, x_ifnull, x_ifnonnull, x_ldi, x_lda, x_sti, x_sta, x_iinc, x_gf, x_pf, x_ald, x_ast, x_aln, x_len, x_cl_, x_cv, x_cs, x_rc, x_r0, x_isT, x_oi, x_rv, x_ri, x_ra, Value.category, t138_0, t138_1, t138_2, t138_3, t138_5, t138_7, t138_8, t138_11, t138_12, t138_15, t138_17, t138_18, t138_20, t138_21, t138_23, t138_25, t138_28, t138_30, t138_32, t138_33, t138_36, t138_38, t138_40, t138_42, t138_43, t138_44, t138_45, t138_46, t138_49, t138_51, t138_54, t138_57, t138_58, t138_60, t138_63, t138_64, t138_67, t138_68, t138_70, t138_73, t138_74, t138_77, t138_80, t138_81, t138_84, t138_85, t138_88, t138_89, t138_91, t138_93, t138_96, t138_97, t138_100, t138_101, t138_102, t138_103, t138_104, t138_105, t138_106, t138_107, t138_108, t138_109, t138_112, t138_113, t138_114, t138_115, t138_116, t138_119, t138_120, t138_123, t138_124, t138_126, t138_128, t138_131, t138_132, t138_134, t138_137, t138_140, t138_141, t138_144, t138_145, t138_148, t138_149, t138_151, t138_154, t138_155, t138_157, t138_160, t138_163, t138_166, t138_169, lk_s, hp_get, hp_set, uH_at, uH_ne, uH_upd, uH_swap, iZ_add, iZ_sub, iZ_mul, iZ_neg, iZ_lt, iZ_le, iZ_eq, iZ_div, iZ_of, ix_Z, gZ_map, gZ_mapI, gZ_map', le_0, le_s, sZ_map, sZ_len, bZ_0, bZ_inj, bZ_t, bZ_f, nr_i, nr_0, nr_1, nr_b, ft_i, ft_b, ft_0, ft_1, zl_0, zl_1, zl_4, zl_40, zl_41, zl_44, zl_65, zl_97, zl_99, zl_100, mF_len, mg_0, mg_1, mg_2, mg_3, mg_4, mg_5, mg_6, mg_7, mg_8, mg_9, mg_10, mg_11, mg_12, mg_13, mg_14, mg_15, mg_16, mg_17, mg_18, mg_19, mg_20, mg_21, mg_22, mg_23, mg_24, mg_25, mg_26, mg_27, mg_28, mg_29, mg_30, mg_31, mg_32, mg_33, mg_34, mg_35, mg_36, mg_37, mg_38, ms_0, ms_1, ms_2, ms_13, ms_14, ms_15, ms_16, ms_21, ms_22, ms_23, ms_24, ms_28, ms_36, ms_37, ms_38, st_at, st_ne, st_st, st_swap, q6, -List.filter_filter, -List.getElem?_map, -List.getD_eq_getElem?_getD]
        have g154 : Gx q_k138 (d + 1) 154 ((6, .int (iZ 0)) :: lv.filter (x_keep 6), [], hp w1 N) res := by
          refine Gx.run 20 X (fun C mm => ?_) hg2
          simp (disch := first | (refine c1_id ?_; assumption) | (refine c1_st rfl ?_; repeat (first | assumption | refine c1_st rfl ?_)) | omega) [nx_l, nx_r, nx_n, x_st, x_push, x_bin, x_div, x_un, x_dup, x_pop, x_dup2, x_goto, x_ifeq, x_ifne, x_iflt, x_ifge, x_ifgt, x_ifle, x_iceq, x_icne, x_iclt, x_icge, x_icgt, x_icle, x_ifnull, x_ifnonnull, x_ldi, x_lda, x_sti, x_sta, x_iinc, x_gf, x_pf, x_ald, x_ast, x_aln, x_len, x_cl_, x_cv, x_cs, x_rc, x_r0, x_isT, x_oi, x_rv, x_ri, x_ra, Value.category, t138_0, t138_1, t138_2, t138_3, t138_5, t138_7, t138_8, t138_11, t138_12, t138_15, t138_17, t138_18, t138_20, t138_21, t138_23, t138_25, t138_28, t138_30, t138_32, t138_33, t138_36, t138_38, t138_40, t138_42, t138_43, t138_44, t138_45, t138_46, t138_49, t138_51, t138_54, t138_57, t138_58, t138_60, t138_63, t138_64, t138_67, t138_68, t138_70, t138_73, t138_74, t138_77, t138_80, t138_81, t138_84, t138_85, t138_88, t138_89, t138_91, t138_93, t138_96, t138_97, t138_100, t138_101, t138_102, t138_103, t138_104, t138_105, t138_106, t138_107, t138_108, t138_109, t138_112, t138_113, t138_114, t138_115, t138_116, t138_119, t138_120, t138_123, t138_124, t138_126, t138_128, t138_131, t138_132, t138_134, t138_137, t138_140, t138_141, t138_144, t138_145, t138_148, t138_149, t138_151, t138_154, t138_155, t138_157, t138_160, t138_163, t138_166, t138_169, lk_s, hp_get, hp_set, uH_at, uH_ne, uH_upd, uH_swap, iZ_add, iZ_sub, iZ_mul, iZ_neg, iZ_lt, iZ_le, iZ_eq, iZ_div, iZ_of, ix_Z, gZ_map, gZ_mapI, gZ_map', le_0, le_s, sZ_map, sZ_len, bZ_0, bZ_inj, bZ_t, bZ_f, nr_i, nr_0, nr_1, nr_b, ft_i, ft_b, ft_0, ft_1, zl_0, zl_1, zl_4, zl_40, zl_41, zl_44, zl_65, zl_97, zl_99, zl_100, mF_len, mg_0, mg_1, mg_2, mg_3, mg_4, mg_5, mg_6, mg_7, mg_8, mg_9, mg_10, mg_11, mg_12, mg_13, mg_14, mg_15, mg_16, mg_17, mg_18, mg_19, mg_20, mg_21, mg_22, mg_23, mg_24, mg_25, mg_26, mg_27, mg_28, mg_29, mg_30, mg_31, mg_32, mg_33, mg_34, mg_35, mg_36, mg_37, mg_38, ms_0, ms_1, ms_2, ms_13, ms_14, ms_15, ms_16, ms_21, ms_22, ms_23, ms_24, ms_28, ms_36, ms_37, ms_38, st_at, st_ne, st_st, st_swap, p0, hm1, mm, -List.filter_filter, -List.getElem?_map, -List.getD_eq_getElem?_getD]
        refine Gx.run 60 Cs.tt (fun C _ => ?_) g154
        have b2 : ¬ (n : Int) - 1 = 0 := by omega
        rw [hw1]
        obtain ⟨nn, hnn⟩ : ∃ nn : Int, nn = (n : Int) := ⟨_, rfl⟩
        rw [← hnn] at e1 b2 nr nr1 ⊢
        have ea : gZ (sZ En (K.length : Int) (nn - 1)) (K.length : Int) = nn - 1 := by rw [gZ_sZ (by omega) (by omega) (by omega), if_pos rfl]
        simp (disch := first | (refine c1_id ?_; assumption) | (refine c1_st rfl ?_; repeat (first | assumption | refine c1_st rfl ?_)) | omega) [nx_l, nx_r, nx_n, x_st, x_push, x_bin, x_div, x_un, x_dup, x_pop, x_dup2, x_goto, x_ifeq, x_ifne, x_iflt, x_ifge, x_ifgt, x_ifle, x_iceq, x_icne, x_iclt, x_icge, x_icgt, x_icle, x_ifnull, x_ifnonnull, x_ldi, x_lda, x_sti, x_sta, x_iinc, x_gf, x_pf, x_ald, x_ast, x_aln, x_len, x_cl_, x_cv, x_cs, x_rc, x_r0, x_isT, x_oi, x_rv, x_ri, x_ra, Value.category, t138_0, t138_1, t138_2, t138_3, t138_5, t138_7, t138_8, t138_11, t138_12, t138_15, t138_17, t138_18, t138_20, t138_21, t138_23, t138_25, t138_28, t138_30, t138_32, t138_33, t138_36, t138_38, t138_40, t138_42, t138_43, t138_44, t138_45, t138_46, t138_49, t138_51, t138_54, t138_57, t138_58, t138_60, t138_63, t138_64, t138_67, t138_68, t138_70, t138_73, t138_74, t138_77, t138_80, t138_81, t138_84, t138_85, t138_88, t138_89, t138_91, t138_93, t138_96, t138_97, t138_100, t138_101, t138_102, t138_103, t138_104, t138_105, t138_106, t138_107, t138_108, t138_109, t138_112, t138_113, t138_114, t138_115, t138_116, t138_119, t138_120, t138_123, t138_124, t138_126, t138_128, t138_131, t138_132, t138_134, t138_137, t138_140, t138_141, t138_144, t138_145, t138_148, t138_149, t138_151, t138_154, t138_155, t138_157, t138_160, t138_163, t138_166, t138_169, lk_s, hp_get, hp_set, uH_at, uH_ne, uH_upd, uH_swap, iZ_add, iZ_sub, iZ_mul, iZ_neg, iZ_lt, iZ_le, iZ_eq, iZ_div, iZ_of, ix_Z, gZ_map, gZ_mapI, gZ_map', le_0, le_s, sZ_map, sZ_len, bZ_0, bZ_inj, bZ_t, bZ_f, nr_i, nr_0, nr_1, nr_b, ft_i, ft_b, ft_0, ft_1, zl_0, zl_1, zl_4, zl_40, zl_41, zl_44, zl_65, zl_97, zl_99, zl_100, mF_len, mg_0, mg_1, mg_2, mg_3, mg_4, mg_5, mg_6, mg_7, mg_8, mg_9, mg_10, mg_11, mg_12, mg_13, mg_14, mg_15, mg_16, mg_17, mg_18, mg_19, mg_20, mg_21, mg_22, mg_23, mg_24, mg_25, mg_26, mg_27, mg_28, mg_29, mg_30, mg_31, mg_32, mg_33, mg_34, mg_35, mg_36, mg_37, mg_38, ms_0, ms_1, ms_2, ms_13, ms_14, ms_15, ms_16, ms_21, ms_22, ms_23, ms_24, ms_28, ms_36, ms_37, ms_38, st_at, st_ne, st_st, st_swap, p0, p3, l6', hm, hE, eo, e1, ea, b2, -List.filter_filter, -List.getElem?_map, -List.getD_eq_getElem?_getD]
end TT
