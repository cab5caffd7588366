/-! the reference: a term is read -/
theorem f100_0 : x_fetch q_k100 0 = x_st (x_push 1 (.int (0))) := rfl
theorem t100_0 (C : xF) (s n : Nat) (z : xS) : x_to q_k100 C s (n + 1) 0 z = x_nx q_k100 C s n ((x_st (x_push 1 (.int (0)))) C z) := x_to_at f100_0 C s n z
theorem f100_1 : x_fetch q_k100 1 = x_sti 2 1 := rfl
theorem t100_1 (C : xF) (s n : Nat) (z : xS) : x_to q_k100 C s (n + 1) 1 z = x_nx q_k100 C s n ((x_sti 2 1) C z) := x_to_at f100_1 C s n z
theorem f100_2 : x_fetch q_k100 2 = x_st (x_push 3 (.int (1))) := rfl
theorem t100_2 (C : xF) (s n : Nat) (z : xS) : x_to q_k100 C s (n + 1) 2 z = x_nx q_k100 C s n ((x_st (x_push 3 (.int (1)))) C z) := x_to_at f100_2 C s n z
theorem f100_3 : x_fetch q_k100 3 = x_sti 4 2 := rfl
theorem t100_3 (C : xF) (s n : Nat) (z : xS) : x_to q_k100 C s (n + 1) 3 z = x_nx q_k100 C s n ((x_sti 4 2) C z) := x_to_at f100_3 C s n z
theorem f100_4 : x_fetch q_k100 4 = x_ldi 5 2 := rfl
theorem t100_4 (C : xF) (s n : Nat) (z : xS) : x_to q_k100 C s (n + 1) 4 z = x_nx q_k100 C s n ((x_ldi 5 2) C z) := x_to_at f100_4 C s n z
theorem f100_5 : x_fetch q_k100 5 = x_st (x_ifeq 257 8) := rfl
theorem t100_5 (C : xF) (s n : Nat) (z : xS) : x_to q_k100 C s (n + 1) 5 z = x_nx q_k100 C s n ((x_st (x_ifeq 257 8)) C z) := x_to_at f100_5 C s n z
theorem f100_8 : x_fetch q_k100 8 = x_lda 9 0 := rfl
theorem t100_8 (C : xF) (s n : Nat) (z : xS) : x_to q_k100 C s (n + 1) 8 z = x_nx q_k100 C s n ((x_lda 9 0) C z) := x_to_at f100_8 C s n z
theorem f100_9 : x_fetch q_k100 9 = x_gf 12 8 15 := rfl
theorem t100_9 (C : xF) (s n : Nat) (z : xS) : x_to q_k100 C s (n + 1) 9 z = x_nx q_k100 C s n ((x_gf 12 8 15) C z) := x_to_at f100_9 C s n z
theorem f100_12 : x_fetch q_k100 12 = x_st (x_ifne 257 15) := rfl
theorem t100_12 (C : xF) (s n : Nat) (z : xS) : x_to q_k100 C s (n + 1) 12 z = x_nx q_k100 C s n ((x_st (x_ifne 257 15)) C z) := x_to_at f100_12 C s n z
theorem f100_15 : x_fetch q_k100 15 = x_lda 16 0 := rfl
theorem t100_15 (C : xF) (s n : Nat) (z : xS) : x_to q_k100 C s (n + 1) 15 z = x_nx q_k100 C s n ((x_lda 16 0) C z) := x_to_at f100_15 C s n z
theorem f100_16 : x_fetch q_k100 16 = x_cv 19 95 1 8 := rfl
theorem t100_16 (C : xF) (s n : Nat) (z : xS) : x_to q_k100 C s (n + 1) 16 z = x_nx q_k100 C s n ((x_cv 19 95 1 8) C z) := x_to_at f100_16 C s n z
theorem f100_19 : x_fetch q_k100 19 = x_sti 20 3 := rfl
theorem t100_19 (C : xF) (s n : Nat) (z : xS) : x_to q_k100 C s (n + 1) 19 z = x_nx q_k100 C s n ((x_sti 20 3) C z) := x_to_at f100_19 C s n z
theorem f100_20 : x_fetch q_k100 20 = x_ldi 21 3 := rfl
theorem t100_20 (C : xF) (s n : Nat) (z : xS) : x_to q_k100 C s (n + 1) 20 z = x_nx q_k100 C s n ((x_ldi 21 3) C z) := x_to_at f100_20 C s n z
theorem f100_21 : x_fetch q_k100 21 = x_st (x_push 23 (.int (65))) := rfl
theorem t100_21 (C : xF) (s n : Nat) (z : xS) : x_to q_k100 C s (n + 1) 21 z = x_nx q_k100 C s n ((x_st (x_push 23 (.int (65)))) C z) := x_to_at f100_21 C s n z
theorem f100_23 : x_fetch q_k100 23 = x_st (x_iclt 55 26) := rfl
theorem t100_23 (C : xF) (s n : Nat) (z : xS) : x_to q_k100 C s (n + 1) 23 z = x_nx q_k100 C s n ((x_st (x_iclt 55 26)) C z) := x_to_at f100_23 C s n z
theorem f100_26 : x_fetch q_k100 26 = x_ldi 27 3 := rfl
theorem t100_26 (C : xF) (s n : Nat) (z : xS) : x_to q_k100 C s (n + 1) 26 z = x_nx q_k100 C s n ((x_ldi 27 3) C z) := x_to_at f100_26 C s n z
theorem f100_27 : x_fetch q_k100 27 = x_st (x_push 29 (.int (90))) := rfl
theorem t100_27 (C : xF) (s n : Nat) (z : xS) : x_to q_k100 C s (n + 1) 27 z = x_nx q_k100 C s n ((x_st (x_push 29 (.int (90)))) C z) := x_to_at f100_27 C s n z
theorem f100_29 : x_fetch q_k100 29 = x_st (x_icgt 55 32) := rfl
theorem t100_29 (C : xF) (s n : Nat) (z : xS) : x_to q_k100 C s (n + 1) 29 z = x_nx q_k100 C s n ((x_st (x_icgt 55 32)) C z) := x_to_at f100_29 C s n z
theorem f100_32 : x_fetch q_k100 32 = x_lda 33 0 := rfl
theorem t100_32 (C : xF) (s n : Nat) (z : xS) : x_to q_k100 C s (n + 1) 32 z = x_nx q_k100 C s n ((x_lda 33 0) C z) := x_to_at f100_32 C s n z
theorem f100_33 : x_fetch q_k100 33 = x_st (x_dup 34) := rfl
theorem t100_33 (C : xF) (s n : Nat) (z : xS) : x_to q_k100 C s (n + 1) 33 z = x_nx q_k100 C s n ((x_st (x_dup 34)) C z) := x_to_at f100_33 C s n z
theorem f100_34 : x_fetch q_k100 34 = x_gf 37 8 14 := rfl
theorem t100_34 (C : xF) (s n : Nat) (z : xS) : x_to q_k100 C s (n + 1) 34 z = x_nx q_k100 C s n ((x_gf 37 8 14) C z) := x_to_at f100_34 C s n z
theorem f100_37 : x_fetch q_k100 37 = x_st (x_push 38 (.int (1))) := rfl
theorem t100_37 (C : xF) (s n : Nat) (z : xS) : x_to q_k100 C s (n + 1) 37 z = x_nx q_k100 C s n ((x_st (x_push 38 (.int (1)))) C z) := x_to_at f100_37 C s n z
theorem f100_38 : x_fetch q_k100 38 = x_st (x_bin 39 (fun a b => a + b)) := rfl
theorem t100_38 (C : xF) (s n : Nat) (z : xS) : x_to q_k100 C s (n + 1) 38 z = x_nx q_k100 C s n ((x_st (x_bin 39 (fun a b => a + b))) C z) := x_to_at f100_38 C s n z
theorem f100_39 : x_fetch q_k100 39 = x_pf 42 8 14 (.int) := rfl
theorem t100_39 (C : xF) (s n : Nat) (z : xS) : x_to q_k100 C s (n + 1) 39 z = x_nx q_k100 C s n ((x_pf 42 8 14 (.int)) C z) := x_to_at f100_39 C s n z
theorem f100_42 : x_fetch q_k100 42 = x_lda 43 0 := rfl
theorem t100_42 (C : xF) (s n : Nat) (z : xS) : x_to q_k100 C s (n + 1) 42 z = x_nx q_k100 C s n ((x_lda 43 0) C z) := x_to_at f100_42 C s n z
theorem f100_43 : x_fetch q_k100 43 = x_ldi 44 3 := rfl
theorem t100_43 (C : xF) (s n : Nat) (z : xS) : x_to q_k100 C s (n + 1) 43 z = x_nx q_k100 C s n ((x_ldi 44 3) C z) := x_to_at f100_43 C s n z
theorem f100_44 : x_fetch q_k100 44 = x_st (x_push 46 (.int (65))) := rfl
theorem t100_44 (C : xF) (s n : Nat) (z : xS) : x_to q_k100 C s (n + 1) 44 z = x_nx q_k100 C s n ((x_st (x_push 46 (.int (65)))) C z) := x_to_at f100_44 C s n z
theorem f100_46 : x_fetch q_k100 46 = x_st (x_bin 47 (fun a b => a - b)) := rfl
theorem t100_46 (C : xF) (s n : Nat) (z : xS) : x_to q_k100 C s (n + 1) 46 z = x_nx q_k100 C s n ((x_st (x_bin 47 (fun a b => a - b))) C z) := x_to_at f100_46 C s n z
theorem f100_47 : x_fetch q_k100 47 = x_cv 50 98 2 8 := rfl
theorem t100_47 (C : xF) (s n : Nat) (z : xS) : x_to q_k100 C s (n + 1) 47 z = x_nx q_k100 C s n ((x_cv 50 98 2 8) C z) := x_to_at f100_47 C s n z
theorem f100_50 : x_fetch q_k100 50 = x_st (x_push 51 (.int (0))) := rfl
theorem t100_50 (C : xF) (s n : Nat) (z : xS) : x_to q_k100 C s (n + 1) 50 z = x_nx q_k100 C s n ((x_st (x_push 51 (.int (0)))) C z) := x_to_at f100_50 C s n z
theorem f100_51 : x_fetch q_k100 51 = x_sti 52 2 := rfl
theorem t100_51 (C : xF) (s n : Nat) (z : xS) : x_to q_k100 C s (n + 1) 51 z = x_nx q_k100 C s n ((x_sti 52 2) C z) := x_to_at f100_51 C s n z
theorem f100_52 : x_fetch q_k100 52 = x_st (x_goto 134) := rfl
theorem t100_52 (C : xF) (s n : Nat) (z : xS) : x_to q_k100 C s (n + 1) 52 z = x_nx q_k100 C s n ((x_st (x_goto 134)) C z) := x_to_at f100_52 C s n z
theorem f100_55 : x_fetch q_k100 55 = x_ldi 56 3 := rfl
theorem t100_55 (C : xF) (s n : Nat) (z : xS) : x_to q_k100 C s (n + 1) 55 z = x_nx q_k100 C s n ((x_ldi 56 3) C z) := x_to_at f100_55 C s n z
theorem f100_56 : x_fetch q_k100 56 = x_cl_ 59 97 1 := rfl
theorem t100_56 (C : xF) (s n : Nat) (z : xS) : x_to q_k100 C s (n + 1) 56 z = x_nx q_k100 C s n ((x_cl_ 59 97 1) C z) := x_to_at f100_56 C s n z
theorem f100_59 : x_fetch q_k100 59 = x_st (x_ifeq 129 62) := rfl
theorem t100_59 (C : xF) (s n : Nat) (z : xS) : x_to q_k100 C s (n + 1) 59 z = x_nx q_k100 C s n ((x_st (x_ifeq 129 62)) C z) := x_to_at f100_59 C s n z
theorem f100_62 : x_fetch q_k100 62 = x_lda 63 0 := rfl
theorem t100_62 (C : xF) (s n : Nat) (z : xS) : x_to q_k100 C s (n + 1) 62 z = x_nx q_k100 C s n ((x_lda 63 0) C z) := x_to_at f100_62 C s n z
theorem f100_63 : x_fetch q_k100 63 = x_st (x_dup 64) := rfl
theorem t100_63 (C : xF) (s n : Nat) (z : xS) : x_to q_k100 C s (n + 1) 63 z = x_nx q_k100 C s n ((x_st (x_dup 64)) C z) := x_to_at f100_63 C s n z
theorem f100_64 : x_fetch q_k100 64 = x_gf 67 8 14 := rfl
theorem t100_64 (C : xF) (s n : Nat) (z : xS) : x_to q_k100 C s (n + 1) 64 z = x_nx q_k100 C s n ((x_gf 67 8 14) C z) := x_to_at f100_64 C s n z
theorem f100_67 : x_fetch q_k100 67 = x_st (x_push 68 (.int (1))) := rfl
theorem t100_67 (C : xF) (s n : Nat) (z : xS) : x_to q_k100 C s (n + 1) 67 z = x_nx q_k100 C s n ((x_st (x_push 68 (.int (1)))) C z) := x_to_at f100_67 C s n z
theorem f100_68 : x_fetch q_k100 68 = x_st (x_bin 69 (fun a b => a + b)) := rfl
theorem t100_68 (C : xF) (s n : Nat) (z : xS) : x_to q_k100 C s (n + 1) 68 z = x_nx q_k100 C s n ((x_st (x_bin 69 (fun a b => a + b))) C z) := x_to_at f100_68 C s n z
theorem f100_69 : x_fetch q_k100 69 = x_pf 72 8 14 (.int) := rfl
theorem t100_69 (C : xF) (s n : Nat) (z : xS) : x_to q_k100 C s (n + 1) 69 z = x_nx q_k100 C s n ((x_pf 72 8 14 (.int)) C z) := x_to_at f100_69 C s n z
theorem f100_72 : x_fetch q_k100 72 = x_lda 73 0 := rfl
theorem t100_72 (C : xF) (s n : Nat) (z : xS) : x_to q_k100 C s (n + 1) 72 z = x_nx q_k100 C s n ((x_lda 73 0) C z) := x_to_at f100_72 C s n z
theorem f100_73 : x_fetch q_k100 73 = x_st (x_push 75 (.int (100))) := rfl
theorem t100_73 (C : xF) (s n : Nat) (z : xS) : x_to q_k100 C s (n + 1) 73 z = x_nx q_k100 C s n ((x_st (x_push 75 (.int (100)))) C z) := x_to_at f100_73 C s n z
theorem f100_75 : x_fetch q_k100 75 = x_st (x_push 76 (.int (4))) := rfl
theorem t100_75 (C : xF) (s n : Nat) (z : xS) : x_to q_k100 C s (n + 1) 75 z = x_nx q_k100 C s n ((x_st (x_push 76 (.int (4)))) C z) := x_to_at f100_75 C s n z
theorem f100_76 : x_fetch q_k100 76 = x_ldi 77 3 := rfl
theorem t100_76 (C : xF) (s n : Nat) (z : xS) : x_to q_k100 C s (n + 1) 76 z = x_nx q_k100 C s n ((x_ldi 77 3) C z) := x_to_at f100_76 C s n z
theorem f100_77 : x_fetch q_k100 77 = x_st (x_push 79 (.int (97))) := rfl
theorem t100_77 (C : xF) (s n : Nat) (z : xS) : x_to q_k100 C s (n + 1) 77 z = x_nx q_k100 C s n ((x_st (x_push 79 (.int (97)))) C z) := x_to_at f100_77 C s n z
theorem f100_79 : x_fetch q_k100 79 = x_st (x_bin 80 (fun a b => a - b)) := rfl
theorem t100_79 (C : xF) (s n : Nat) (z : xS) : x_to q_k100 C s (n + 1) 79 z = x_nx q_k100 C s n ((x_st (x_bin 80 (fun a b => a - b))) C z) := x_to_at f100_79 C s n z
theorem f100_80 : x_fetch q_k100 80 = x_st (x_bin 81 (fun a b => a * b)) := rfl
theorem t100_80 (C : xF) (s n : Nat) (z : xS) : x_to q_k100 C s (n + 1) 80 z = x_nx q_k100 C s n ((x_st (x_bin 81 (fun a b => a * b))) C z) := x_to_at f100_80 C s n z
theorem f100_81 : x_fetch q_k100 81 = x_st (x_bin 82 (fun a b => a + b)) := rfl
theorem t100_81 (C : xF) (s n : Nat) (z : xS) : x_to q_k100 C s (n + 1) 81 z = x_nx q_k100 C s n ((x_st (x_bin 82 (fun a b => a + b))) C z) := x_to_at f100_81 C s n z
theorem f100_82 : x_fetch q_k100 82 = x_cv 85 98 2 8 := rfl
theorem t100_82 (C : xF) (s n : Nat) (z : xS) : x_to q_k100 C s (n + 1) 82 z = x_nx q_k100 C s n ((x_cv 85 98 2 8) C z) := x_to_at f100_82 C s n z
theorem f100_85 : x_fetch q_k100 85 = x_lda 86 0 := rfl
theorem t100_85 (C : xF) (s n : Nat) (z : xS) : x_to q_k100 C s (n + 1) 85 z = x_nx q_k100 C s n ((x_lda 86 0) C z) := x_to_at f100_85 C s n z
theorem f100_86 : x_fetch q_k100 86 = x_st (x_push 88 (.int (40))) := rfl
theorem t100_86 (C : xF) (s n : Nat) (z : xS) : x_to q_k100 C s (n + 1) 86 z = x_nx q_k100 C s n ((x_st (x_push 88 (.int (40)))) C z) := x_to_at f100_86 C s n z
theorem f100_88 : x_fetch q_k100 88 = x_cv 91 96 2 8 := rfl
theorem t100_88 (C : xF) (s n : Nat) (z : xS) : x_to q_k100 C s (n + 1) 88 z = x_nx q_k100 C s n ((x_cv 91 96 2 8) C z) := x_to_at f100_88 C s n z
theorem f100_91 : x_fetch q_k100 91 = x_sti 92 2 := rfl
theorem t100_91 (C : xF) (s n : Nat) (z : xS) : x_to q_k100 C s (n + 1) 91 z = x_nx q_k100 C s n ((x_sti 92 2) C z) := x_to_at f100_91 C s n z
theorem f100_92 : x_fetch q_k100 92 = x_ldi 93 2 := rfl
theorem t100_92 (C : xF) (s n : Nat) (z : xS) : x_to q_k100 C s (n + 1) 92 z = x_nx q_k100 C s n ((x_ldi 93 2) C z) := x_to_at f100_92 C s n z
theorem f100_93 : x_fetch q_k100 93 = x_st (x_ifeq 134 96) := rfl
theorem t100_93 (C : xF) (s n : Nat) (z : xS) : x_to q_k100 C s (n + 1) 93 z = x_nx q_k100 C s n ((x_st (x_ifeq 134 96)) C z) := x_to_at f100_93 C s n z
theorem f100_96 : x_fetch q_k100 96 = x_lda 97 0 := rfl
theorem t100_96 (C : xF) (s n : Nat) (z : xS) : x_to q_k100 C s (n + 1) 96 z = x_nx q_k100 C s n ((x_lda 97 0) C z) := x_to_at f100_96 C s n z
theorem f100_97 : x_fetch q_k100 97 = x_gf 100 8 33 := rfl
theorem t100_97 (C : xF) (s n : Nat) (z : xS) : x_to q_k100 C s (n + 1) 97 z = x_nx q_k100 C s n ((x_gf 100 8 33) C z) := x_to_at f100_97 C s n z
theorem f100_100 : x_fetch q_k100 100 = x_ldi 101 1 := rfl
theorem t100_100 (C : xF) (s n : Nat) (z : xS) : x_to q_k100 C s (n + 1) 100 z = x_nx q_k100 C s n ((x_ldi 101 1) C z) := x_to_at f100_100 C s n z
theorem f100_101 : x_fetch q_k100 101 = x_lda 102 0 := rfl
theorem t100_101 (C : xF) (s n : Nat) (z : xS) : x_to q_k100 C s (n + 1) 101 z = x_nx q_k100 C s n ((x_lda 102 0) C z) := x_to_at f100_101 C s n z
theorem f100_102 : x_fetch q_k100 102 = x_gf 105 8 21 := rfl
theorem t100_102 (C : xF) (s n : Nat) (z : xS) : x_to q_k100 C s (n + 1) 102 z = x_nx q_k100 C s n ((x_gf 105 8 21) C z) := x_to_at f100_102 C s n z
theorem f100_105 : x_fetch q_k100 105 = x_st (x_push 106 (.int (1))) := rfl
theorem t100_105 (C : xF) (s n : Nat) (z : xS) : x_to q_k100 C s (n + 1) 105 z = x_nx q_k100 C s n ((x_st (x_push 106 (.int (1)))) C z) := x_to_at f100_105 C s n z
theorem f100_106 : x_fetch q_k100 106 = x_st (x_bin 107 (fun a b => a - b)) := rfl
theorem t100_106 (C : xF) (s n : Nat) (z : xS) : x_to q_k100 C s (n + 1) 106 z = x_nx q_k100 C s n ((x_st (x_bin 107 (fun a b => a - b))) C z) := x_to_at f100_106 C s n z
theorem f100_107 : x_fetch q_k100 107 = x_ast 108 0 (fun x => x) := rfl
theorem t100_107 (C : xF) (s n : Nat) (z : xS) : x_to q_k100 C s (n + 1) 107 z = x_nx q_k100 C s n ((x_ast 108 0 (fun x => x)) C z) := x_to_at f100_107 C s n z
theorem f100_108 : x_fetch q_k100 108 = x_iinc 111 1 (1) := rfl
theorem t100_108 (C : xF) (s n : Nat) (z : xS) : x_to q_k100 C s (n + 1) 108 z = x_nx q_k100 C s n ((x_iinc 111 1 (1)) C z) := x_to_at f100_108 C s n z
theorem f100_111 : x_fetch q_k100 111 = x_lda 112 0 := rfl
theorem t100_111 (C : xF) (s n : Nat) (z : xS) : x_to q_k100 C s (n + 1) 111 z = x_nx q_k100 C s n ((x_lda 112 0) C z) := x_to_at f100_111 C s n z
theorem f100_112 : x_fetch q_k100 112 = x_gf 115 8 17 := rfl
theorem t100_112 (C : xF) (s n : Nat) (z : xS) : x_to q_k100 C s (n + 1) 112 z = x_nx q_k100 C s n ((x_gf 115 8 17) C z) := x_to_at f100_112 C s n z
theorem f100_115 : x_fetch q_k100 115 = x_lda 116 0 := rfl
theorem t100_115 (C : xF) (s n : Nat) (z : xS) : x_to q_k100 C s (n + 1) 115 z = x_nx q_k100 C s n ((x_lda 116 0) C z) := x_to_at f100_115 C s n z
theorem f100_116 : x_fetch q_k100 116 = x_gf 119 8 21 := rfl
theorem t100_116 (C : xF) (s n : Nat) (z : xS) : x_to q_k100 C s (n + 1) 116 z = x_nx q_k100 C s n ((x_gf 119 8 21) C z) := x_to_at f100_116 C s n z
theorem f100_119 : x_fetch q_k100 119 = x_st (x_push 120 (.int (1))) := rfl
theorem t100_119 (C : xF) (s n : Nat) (z : xS) : x_to q_k100 C s (n + 1) 119 z = x_nx q_k100 C s n ((x_st (x_push 120 (.int (1)))) C z) := x_to_at f100_119 C s n z
theorem f100_120 : x_fetch q_k100 120 = x_st (x_bin 121 (fun a b => a - b)) := rfl
theorem t100_120 (C : xF) (s n : Nat) (z : xS) : x_to q_k100 C s (n + 1) 120 z = x_nx q_k100 C s n ((x_st (x_bin 121 (fun a b => a - b))) C z) := x_to_at f100_120 C s n z
theorem f100_121 : x_fetch q_k100 121 = x_st (x_dup2 122) := rfl
theorem t100_121 (C : xF) (s n : Nat) (z : xS) : x_to q_k100 C s (n + 1) 121 z = x_nx q_k100 C s n ((x_st (x_dup2 122)) C z) := x_to_at f100_121 C s n z
theorem f100_122 : x_fetch q_k100 122 = x_ald 123 0 := rfl
theorem t100_122 (C : xF) (s n : Nat) (z : xS) : x_to q_k100 C s (n + 1) 122 z = x_nx q_k100 C s n ((x_ald 123 0) C z) := x_to_at f100_122 C s n z
theorem f100_123 : x_fetch q_k100 123 = x_st (x_push 124 (.int (1))) := rfl
theorem t100_123 (C : xF) (s n : Nat) (z : xS) : x_to q_k100 C s (n + 1) 123 z = x_nx q_k100 C s n ((x_st (x_push 124 (.int (1)))) C z) := x_to_at f100_123 C s n z
theorem f100_124 : x_fetch q_k100 124 = x_st (x_bin 125 (fun a b => a + b)) := rfl
theorem t100_124 (C : xF) (s n : Nat) (z : xS) : x_to q_k100 C s (n + 1) 124 z = x_nx q_k100 C s n ((x_st (x_bin 125 (fun a b => a + b))) C z) := x_to_at f100_124 C s n z
theorem f100_125 : x_fetch q_k100 125 = x_ast 126 0 (fun x => x) := rfl
theorem t100_125 (C : xF) (s n : Nat) (z : xS) : x_to q_k100 C s (n + 1) 125 z = x_nx q_k100 C s n ((x_ast 126 0 (fun x => x)) C z) := x_to_at f100_125 C s n z
theorem f100_126 : x_fetch q_k100 126 = x_st (x_goto 134) := rfl
theorem t100_126 (C : xF) (s n : Nat) (z : xS) : x_to q_k100 C s (n + 1) 126 z = x_nx q_k100 C s n ((x_st (x_goto 134)) C z) := x_to_at f100_126 C s n z
theorem f100_129 : x_fetch q_k100 129 = x_lda 130 0 := rfl
theorem t100_129 (C : xF) (s n : Nat) (z : xS) : x_to q_k100 C s (n + 1) 129 z = x_nx q_k100 C s n ((x_lda 130 0) C z) := x_to_at f100_129 C s n z
theorem f100_130 : x_fetch q_k100 130 = x_st (x_push 131 (.int (1))) := rfl
theorem t100_130 (C : xF) (s n : Nat) (z : xS) : x_to q_k100 C s (n + 1) 130 z = x_nx q_k100 C s n ((x_st (x_push 131 (.int (1)))) C z) := x_to_at f100_130 C s n z
theorem f100_131 : x_fetch q_k100 131 = x_pf 134 8 15 (.boolean) := rfl
theorem t100_131 (C : xF) (s n : Nat) (z : xS) : x_to q_k100 C s (n + 1) 131 z = x_nx q_k100 C s n ((x_pf 134 8 15 (.boolean)) C z) := x_to_at f100_131 C s n z
theorem f100_134 : x_fetch q_k100 134 = x_ldi 135 2 := rfl
theorem t100_134 (C : xF) (s n : Nat) (z : xS) : x_to q_k100 C s (n + 1) 134 z = x_nx q_k100 C s n ((x_ldi 135 2) C z) := x_to_at f100_134 C s n z
theorem f100_135 : x_fetch q_k100 135 = x_st (x_ifne 254 138) := rfl
theorem t100_135 (C : xF) (s n : Nat) (z : xS) : x_to q_k100 C s (n + 1) 135 z = x_nx q_k100 C s n ((x_st (x_ifne 254 138)) C z) := x_to_at f100_135 C s n z
theorem f100_138 : x_fetch q_k100 138 = x_ldi 139 1 := rfl
theorem t100_138 (C : xF) (s n : Nat) (z : xS) : x_to q_k100 C s (n + 1) 138 z = x_nx q_k100 C s n ((x_ldi 139 1) C z) := x_to_at f100_138 C s n z
theorem f100_139 : x_fetch q_k100 139 = x_st (x_ifle 254 142) := rfl
theorem t100_139 (C : xF) (s n : Nat) (z : xS) : x_to q_k100 C s (n + 1) 139 z = x_nx q_k100 C s n ((x_st (x_ifle 254 142)) C z) := x_to_at f100_139 C s n z
theorem f100_142 : x_fetch q_k100 142 = x_lda 143 0 := rfl
theorem t100_142 (C : xF) (s n : Nat) (z : xS) : x_to q_k100 C s (n + 1) 142 z = x_nx q_k100 C s n ((x_lda 143 0) C z) := x_to_at f100_142 C s n z
theorem f100_143 : x_fetch q_k100 143 = x_gf 146 8 15 := rfl
theorem t100_143 (C : xF) (s n : Nat) (z : xS) : x_to q_k100 C s (n + 1) 143 z = x_nx q_k100 C s n ((x_gf 146 8 15) C z) := x_to_at f100_143 C s n z
theorem f100_146 : x_fetch q_k100 146 = x_st (x_ifne 254 149) := rfl
theorem t100_146 (C : xF) (s n : Nat) (z : xS) : x_to q_k100 C s (n + 1) 146 z = x_nx q_k100 C s n ((x_st (x_ifne 254 149)) C z) := x_to_at f100_146 C s n z
theorem f100_149 : x_fetch q_k100 149 = x_lda 150 0 := rfl
theorem t100_149 (C : xF) (s n : Nat) (z : xS) : x_to q_k100 C s (n + 1) 149 z = x_nx q_k100 C s n ((x_lda 150 0) C z) := x_to_at f100_149 C s n z
theorem f100_150 : x_fetch q_k100 150 = x_st (x_push 152 (.int (44))) := rfl
theorem t100_150 (C : xF) (s n : Nat) (z : xS) : x_to q_k100 C s (n + 1) 150 z = x_nx q_k100 C s n ((x_st (x_push 152 (.int (44)))) C z) := x_to_at f100_150 C s n z
theorem f100_152 : x_fetch q_k100 152 = x_cv 155 96 2 8 := rfl
theorem t100_152 (C : xF) (s n : Nat) (z : xS) : x_to q_k100 C s (n + 1) 152 z = x_nx q_k100 C s n ((x_cv 155 96 2 8) C z) := x_to_at f100_152 C s n z
theorem f100_155 : x_fetch q_k100 155 = x_st (x_ifeq 231 158) := rfl
theorem t100_155 (C : xF) (s n : Nat) (z : xS) : x_to q_k100 C s (n + 1) 155 z = x_nx q_k100 C s n ((x_st (x_ifeq 231 158)) C z) := x_to_at f100_155 C s n z
set_option maxRecDepth 20000 in
theorem f100_158 : x_fetch q_k100 158 = x_st (x_push 159 (.int (1))) := rfl
theorem t100_158 (C : xF) (s n : Nat) (z : xS) : x_to q_k100 C s (n + 1) 158 z = x_nx q_k100 C s n ((x_st (x_push 159 (.int (1)))) C z) := x_to_at f100_158 C s n z
set_option maxRecDepth 20000 in
theorem f100_159 : x_fetch q_k100 159 = x_sti 160 2 := rfl
theorem t100_159 (C : xF) (s n : Nat) (z : xS) : x_to q_k100 C s (n + 1) 159 z = x_nx q_k100 C s n ((x_sti 160 2) C z) := x_to_at f100_159 C s n z
set_option maxRecDepth 20000 in
theorem f100_160 : x_fetch q_k100 160 = x_lda 161 0 := rfl
theorem t100_160 (C : xF) (s n : Nat) (z : xS) : x_to q_k100 C s (n + 1) 160 z = x_nx q_k100 C s n ((x_lda 161 0) C z) := x_to_at f100_160 C s n z
set_option maxRecDepth 20000 in
theorem f100_161 : x_fetch q_k100 161 = x_gf 164 8 33 := rfl
theorem t100_161 (C : xF) (s n : Nat) (z : xS) : x_to q_k100 C s (n + 1) 161 z = x_nx q_k100 C s n ((x_gf 164 8 33) C z) := x_to_at f100_161 C s n z
set_option maxRecDepth 20000 in
theorem f100_164 : x_fetch q_k100 164 = x_ldi 165 1 := rfl
theorem t100_164 (C : xF) (s n : Nat) (z : xS) : x_to q_k100 C s (n + 1) 164 z = x_nx q_k100 C s n ((x_ldi 165 1) C z) := x_to_at f100_164 C s n z
set_option maxRecDepth 20000 in
theorem f100_165 : x_fetch q_k100 165 = x_st (x_push 166 (.int (1))) := rfl
theorem t100_165 (C : xF) (s n : Nat) (z : xS) : x_to q_k100 C s (n + 1) 165 z = x_nx q_k100 C s n ((x_st (x_push 166 (.int (1)))) C z) := x_to_at f100_165 C s n z
set_option maxRecDepth 20000 in
theorem f100_166 : x_fetch q_k100 166 = x_st (x_bin 167 (fun a b => a - b)) := rfl
theorem t100_166 (C : xF) (s n : Nat) (z : xS) : x_to q_k100 C s (n + 1) 166 z = x_nx q_k100 C s n ((x_st (x_bin 167 (fun a b => a - b))) C z) := x_to_at f100_166 C s n z
set_option maxRecDepth 20000 in
theorem f100_167 : x_fetch q_k100 167 = x_ald 168 0 := rfl
theorem t100_167 (C : xF) (s n : Nat) (z : xS) : x_to q_k100 C s (n + 1) 167 z = x_nx q_k100 C s n ((x_ald 168 0) C z) := x_to_at f100_167 C s n z
set_option maxRecDepth 20000 in
theorem f100_168 : x_fetch q_k100 168 = x_sti 170 4 := rfl
theorem t100_168 (C : xF) (s n : Nat) (z : xS) : x_to q_k100 C s (n + 1) 168 z = x_nx q_k100 C s n ((x_sti 170 4) C z) := x_to_at f100_168 C s n z
set_option maxRecDepth 20000 in
theorem f100_170 : x_fetch q_k100 170 = x_lda 171 0 := rfl
theorem t100_170 (C : xF) (s n : Nat) (z : xS) : x_to q_k100 C s (n + 1) 170 z = x_nx q_k100 C s n ((x_lda 171 0) C z) := x_to_at f100_170 C s n z
set_option maxRecDepth 20000 in
theorem f100_171 : x_fetch q_k100 171 = x_lda 172 0 := rfl
theorem t100_171 (C : xF) (s n : Nat) (z : xS) : x_to q_k100 C s (n + 1) 171 z = x_nx q_k100 C s n ((x_lda 172 0) C z) := x_to_at f100_171 C s n z
set_option maxRecDepth 20000 in
theorem f100_172 : x_fetch q_k100 172 = x_gf 175 8 17 := rfl
theorem t100_172 (C : xF) (s n : Nat) (z : xS) : x_to q_k100 C s (n + 1) 172 z = x_nx q_k100 C s n ((x_gf 175 8 17) C z) := x_to_at f100_172 C s n z
set_option maxRecDepth 20000 in
theorem f100_175 : x_fetch q_k100 175 = x_ldi 177 4 := rfl
theorem t100_175 (C : xF) (s n : Nat) (z : xS) : x_to q_k100 C s (n + 1) 175 z = x_nx q_k100 C s n ((x_ldi 177 4) C z) := x_to_at f100_175 C s n z
set_option maxRecDepth 20000 in
theorem f100_177 : x_fetch q_k100 177 = x_ald 178 0 := rfl
theorem t100_177 (C : xF) (s n : Nat) (z : xS) : x_to q_k100 C s (n + 1) 177 z = x_nx q_k100 C s n ((x_ald 178 0) C z) := x_to_at f100_177 C s n z
set_option maxRecDepth 20000 in
theorem f100_178 : x_fetch q_k100 178 = x_st (x_push 180 (.int (100))) := rfl
theorem t100_178 (C : xF) (s n : Nat) (z : xS) : x_to q_k100 C s (n + 1) 178 z = x_nx q_k100 C s n ((x_st (x_push 180 (.int (100)))) C z) := x_to_at f100_178 C s n z
set_option maxRecDepth 20000 in
theorem f100_180 : x_fetch q_k100 180 = x_st (x_bin 181 (fun a b => a - b)) := rfl
theorem t100_180 (C : xF) (s n : Nat) (z : xS) : x_to q_k100 C s (n + 1) 180 z = x_nx q_k100 C s n ((x_st (x_bin 181 (fun a b => a - b))) C z) := x_to_at f100_180 C s n z
set_option maxRecDepth 20000 in
theorem f100_181 : x_fetch q_k100 181 = x_st (x_push 182 (.int (4))) := rfl
theorem t100_181 (C : xF) (s n : Nat) (z : xS) : x_to q_k100 C s (n + 1) 181 z = x_nx q_k100 C s n ((x_st (x_push 182 (.int (4)))) C z) := x_to_at f100_181 C s n z
set_option maxRecDepth 20000 in
theorem f100_182 : x_fetch q_k100 182 = x_st (x_div 183 (fun a b => a - a / b * b)) := rfl
theorem t100_182 (C : xF) (s n : Nat) (z : xS) : x_to q_k100 C s (n + 1) 182 z = x_nx q_k100 C s n ((x_st (x_div 183 (fun a b => a - a / b * b))) C z) := x_to_at f100_182 C s n z
set_option maxRecDepth 20000 in
theorem f100_183 : x_fetch q_k100 183 = x_st (x_push 184 (.int (3))) := rfl
theorem t100_183 (C : xF) (s n : Nat) (z : xS) : x_to q_k100 C s (n + 1) 183 z = x_nx q_k100 C s n ((x_st (x_push 184 (.int (3)))) C z) := x_to_at f100_183 C s n z
set_option maxRecDepth 20000 in
theorem f100_184 : x_fetch q_k100 184 = x_st (x_icne 191 187) := rfl
theorem t100_184 (C : xF) (s n : Nat) (z : xS) : x_to q_k100 C s (n + 1) 184 z = x_nx q_k100 C s n ((x_st (x_icne 191 187)) C z) := x_to_at f100_184 C s n z
set_option maxRecDepth 20000 in
theorem f100_187 : x_fetch q_k100 187 = x_st (x_push 188 (.int (1))) := rfl
theorem t100_187 (C : xF) (s n : Nat) (z : xS) : x_to q_k100 C s (n + 1) 187 z = x_nx q_k100 C s n ((x_st (x_push 188 (.int (1)))) C z) := x_to_at f100_187 C s n z
set_option maxRecDepth 20000 in
theorem f100_188 : x_fetch q_k100 188 = x_st (x_goto 192) := rfl
theorem t100_188 (C : xF) (s n : Nat) (z : xS) : x_to q_k100 C s (n + 1) 188 z = x_nx q_k100 C s n ((x_st (x_goto 192)) C z) := x_to_at f100_188 C s n z
set_option maxRecDepth 20000 in
theorem f100_191 : x_fetch q_k100 191 = x_st (x_push 192 (.int (0))) := rfl
theorem t100_191 (C : xF) (s n : Nat) (z : xS) : x_to q_k100 C s (n + 1) 191 z = x_nx q_k100 C s n ((x_st (x_push 192 (.int (0)))) C z) := x_to_at f100_191 C s n z
set_option maxRecDepth 20000 in
theorem f100_192 : x_fetch q_k100 192 = x_pf 195 8 15 (.boolean) := rfl
theorem t100_192 (C : xF) (s n : Nat) (z : xS) : x_to q_k100 C s (n + 1) 192 z = x_nx q_k100 C s n ((x_pf 195 8 15 (.boolean)) C z) := x_to_at f100_192 C s n z
set_option maxRecDepth 20000 in
theorem f100_195 : x_fetch q_k100 195 = x_lda 196 0 := rfl
theorem t100_195 (C : xF) (s n : Nat) (z : xS) : x_to q_k100 C s (n + 1) 195 z = x_nx q_k100 C s n ((x_lda 196 0) C z) := x_to_at f100_195 C s n z
set_option maxRecDepth 20000 in
theorem f100_196 : x_fetch q_k100 196 = x_gf 199 8 17 := rfl
theorem t100_196 (C : xF) (s n : Nat) (z : xS) : x_to q_k100 C s (n + 1) 196 z = x_nx q_k100 C s n ((x_gf 199 8 17) C z) := x_to_at f100_196 C s n z
set_option maxRecDepth 20000 in
theorem f100_199 : x_fetch q_k100 199 = x_ldi 201 4 := rfl
theorem t100_199 (C : xF) (s n : Nat) (z : xS) : x_to q_k100 C s (n + 1) 199 z = x_nx q_k100 C s n ((x_ldi 201 4) C z) := x_to_at f100_199 C s n z
set_option maxRecDepth 20000 in
theorem f100_201 : x_fetch q_k100 201 = x_lda 202 0 := rfl
theorem t100_201 (C : xF) (s n : Nat) (z : xS) : x_to q_k100 C s (n + 1) 201 z = x_nx q_k100 C s n ((x_lda 202 0) C z) := x_to_at f100_201 C s n z
set_option maxRecDepth 20000 in
theorem f100_202 : x_fetch q_k100 202 = x_gf 205 8 15 := rfl
theorem t100_202 (C : xF) (s n : Nat) (z : xS) : x_to q_k100 C s (n + 1) 202 z = x_nx q_k100 C s n ((x_gf 205 8 15) C z) := x_to_at f100_202 C s n z
set_option maxRecDepth 20000 in
theorem f100_205 : x_fetch q_k100 205 = x_st (x_ifeq 218 208) := rfl
theorem t100_205 (C : xF) (s n : Nat) (z : xS) : x_to q_k100 C s (n + 1) 205 z = x_nx q_k100 C s n ((x_st (x_ifeq 218 208)) C z) := x_to_at f100_205 C s n z
set_option maxRecDepth 20000 in
theorem f100_208 : x_fetch q_k100 208 = x_lda 209 0 := rfl
theorem t100_208 (C : xF) (s n : Nat) (z : xS) : x_to q_k100 C s (n + 1) 208 z = x_nx q_k100 C s n ((x_lda 209 0) C z) := x_to_at f100_208 C s n z
set_option maxRecDepth 20000 in
theorem f100_209 : x_fetch q_k100 209 = x_gf 212 8 17 := rfl
theorem t100_209 (C : xF) (s n : Nat) (z : xS) : x_to q_k100 C s (n + 1) 209 z = x_nx q_k100 C s n ((x_gf 212 8 17) C z) := x_to_at f100_209 C s n z
set_option maxRecDepth 20000 in
theorem f100_212 : x_fetch q_k100 212 = x_ldi 214 4 := rfl
theorem t100_212 (C : xF) (s n : Nat) (z : xS) : x_to q_k100 C s (n + 1) 212 z = x_nx q_k100 C s n ((x_ldi 214 4) C z) := x_to_at f100_212 C s n z
set_option maxRecDepth 20000 in
theorem f100_214 : x_fetch q_k100 214 = x_ald 215 0 := rfl
theorem t100_214 (C : xF) (s n : Nat) (z : xS) : x_to q_k100 C s (n + 1) 214 z = x_nx q_k100 C s n ((x_ald 215 0) C z) := x_to_at f100_214 C s n z
set_option maxRecDepth 20000 in
theorem f100_215 : x_fetch q_k100 215 = x_st (x_goto 227) := rfl
theorem t100_215 (C : xF) (s n : Nat) (z : xS) : x_to q_k100 C s (n + 1) 215 z = x_nx q_k100 C s n ((x_st (x_goto 227)) C z) := x_to_at f100_215 C s n z
set_option maxRecDepth 20000 in
theorem f100_218 : x_fetch q_k100 218 = x_lda 219 0 := rfl
theorem t100_218 (C : xF) (s n : Nat) (z : xS) : x_to q_k100 C s (n + 1) 218 z = x_nx q_k100 C s n ((x_lda 219 0) C z) := x_to_at f100_218 C s n z
set_option maxRecDepth 20000 in
theorem f100_219 : x_fetch q_k100 219 = x_gf 222 8 17 := rfl
theorem t100_219 (C : xF) (s n : Nat) (z : xS) : x_to q_k100 C s (n + 1) 219 z = x_nx q_k100 C s n ((x_gf 222 8 17) C z) := x_to_at f100_219 C s n z
set_option maxRecDepth 20000 in
theorem f100_222 : x_fetch q_k100 222 = x_ldi 224 4 := rfl
theorem t100_222 (C : xF) (s n : Nat) (z : xS) : x_to q_k100 C s (n + 1) 222 z = x_nx q_k100 C s n ((x_ldi 224 4) C z) := x_to_at f100_222 C s n z
set_option maxRecDepth 20000 in
theorem f100_224 : x_fetch q_k100 224 = x_ald 225 0 := rfl
theorem t100_224 (C : xF) (s n : Nat) (z : xS) : x_to q_k100 C s (n + 1) 224 z = x_nx q_k100 C s n ((x_ald 225 0) C z) := x_to_at f100_224 C s n z
set_option maxRecDepth 20000 in
theorem f100_225 : x_fetch q_k100 225 = x_st (x_push 226 (.int (1))) := rfl
theorem t100_225 (C : xF) (s n : Nat) (z : xS) : x_to q_k100 C s (n + 1) 225 z = x_nx q_k100 C s n ((x_st (x_push 226 (.int (1)))) C z) := x_to_at f100_225 C s n z
set_option maxRecDepth 20000 in
theorem f100_226 : x_fetch q_k100 226 = x_st (x_bin 227 (fun a b => a + b)) := rfl
theorem t100_226 (C : xF) (s n : Nat) (z : xS) : x_to q_k100 C s (n + 1) 226 z = x_nx q_k100 C s n ((x_st (x_bin 227 (fun a b => a + b))) C z) := x_to_at f100_226 C s n z
set_option maxRecDepth 20000 in
theorem f100_227 : x_fetch q_k100 227 = x_ast 228 0 (fun x => x) := rfl
theorem t100_227 (C : xF) (s n : Nat) (z : xS) : x_to q_k100 C s (n + 1) 227 z = x_nx q_k100 C s n ((x_ast 228 0 (fun x => x)) C z) := x_to_at f100_227 C s n z
set_option maxRecDepth 20000 in
theorem f100_228 : x_fetch q_k100 228 = x_st (x_goto 134) := rfl
theorem t100_228 (C : xF) (s n : Nat) (z : xS) : x_to q_k100 C s (n + 1) 228 z = x_nx q_k100 C s n ((x_st (x_goto 134)) C z) := x_to_at f100_228 C s n z
set_option maxRecDepth 20000 in
theorem f100_231 : x_fetch q_k100 231 = x_lda 232 0 := rfl
theorem t100_231 (C : xF) (s n : Nat) (z : xS) : x_to q_k100 C s (n + 1) 231 z = x_nx q_k100 C s n ((x_lda 232 0) C z) := x_to_at f100_231 C s n z
set_option maxRecDepth 20000 in
theorem f100_232 : x_fetch q_k100 232 = x_st (x_push 234 (.int (41))) := rfl
theorem t100_232 (C : xF) (s n : Nat) (z : xS) : x_to q_k100 C s (n + 1) 232 z = x_nx q_k100 C s n ((x_st (x_push 234 (.int (41)))) C z) := x_to_at f100_232 C s n z
set_option maxRecDepth 20000 in
theorem f100_234 : x_fetch q_k100 234 = x_cv 237 96 2 8 := rfl
theorem t100_234 (C : xF) (s n : Nat) (z : xS) : x_to q_k100 C s (n + 1) 234 z = x_nx q_k100 C s n ((x_cv 237 96 2 8) C z) := x_to_at f100_234 C s n z
set_option maxRecDepth 20000 in
theorem f100_237 : x_fetch q_k100 237 = x_st (x_ifeq 246 240) := rfl
theorem t100_237 (C : xF) (s n : Nat) (z : xS) : x_to q_k100 C s (n + 1) 237 z = x_nx q_k100 C s n ((x_st (x_ifeq 246 240)) C z) := x_to_at f100_237 C s n z
set_option maxRecDepth 20000 in
theorem f100_240 : x_fetch q_k100 240 = x_iinc 243 1 (-1) := rfl
theorem t100_240 (C : xF) (s n : Nat) (z : xS) : x_to q_k100 C s (n + 1) 240 z = x_nx q_k100 C s n ((x_iinc 243 1 (-1)) C z) := x_to_at f100_240 C s n z
set_option maxRecDepth 20000 in
theorem f100_243 : x_fetch q_k100 243 = x_st (x_goto 134) := rfl
theorem t100_243 (C : xF) (s n : Nat) (z : xS) : x_to q_k100 C s (n + 1) 243 z = x_nx q_k100 C s n ((x_st (x_goto 134)) C z) := x_to_at f100_243 C s n z
set_option maxRecDepth 20000 in
theorem f100_246 : x_fetch q_k100 246 = x_lda 247 0 := rfl
theorem t100_246 (C : xF) (s n : Nat) (z : xS) : x_to q_k100 C s (n + 1) 246 z = x_nx q_k100 C s n ((x_lda 247 0) C z) := x_to_at f100_246 C s n z
set_option maxRecDepth 20000 in
theorem f100_247 : x_fetch q_k100 247 = x_st (x_push 248 (.int (1))) := rfl
theorem t100_247 (C : xF) (s n : Nat) (z : xS) : x_to q_k100 C s (n + 1) 247 z = x_nx q_k100 C s n ((x_st (x_push 248 (.int (1)))) C z) := x_to_at f100_247 C s n z
set_option maxRecDepth 20000 in
theorem f100_248 : x_fetch q_k100 248 = x_pf 251 8 15 (.boolean) := rfl
theorem t100_248 (C : xF) (s n : Nat) (z : xS) : x_to q_k100 C s (n + 1) 248 z = x_nx q_k100 C s n ((x_pf 251 8 15 (.boolean)) C z) := x_to_at f100_248 C s n z
set_option maxRecDepth 20000 in
theorem f100_251 : x_fetch q_k100 251 = x_st (x_goto 134) := rfl
theorem t100_251 (C : xF) (s n : Nat) (z : xS) : x_to q_k100 C s (n + 1) 251 z = x_nx q_k100 C s n ((x_st (x_goto 134)) C z) := x_to_at f100_251 C s n z
set_option maxRecDepth 20000 in
theorem f100_254 : x_fetch q_k100 254 = x_st (x_goto 4) := rfl
theorem t100_254 (C : xF) (s n : Nat) (z : xS) : x_to q_k100 C s (n + 1) 254 z = x_nx q_k100 C s n ((x_st (x_goto 4)) C z) := x_to_at f100_254 C s n z
set_option maxRecDepth 20000 in
theorem f100_257 : x_fetch q_k100 257 = x_rv := rfl
theorem t100_257 (C : xF) (s n : Nat) (z : xS) : x_to q_k100 C s (n + 1) 257 z = x_nx q_k100 C s n ((x_rv) C z) := x_to_at f100_257 C s n z
def sgR (s : Int) : Prop := (0 ≤ s ∧ s < 26) ∨ (100 ≤ s ∧ s < 204)
theorem rdA_sg {f : List Int → Option (List Int × List Int)} (hf : ∀ r t r1, f r = some (t, r1) → ∀ s ∈ t, sgR s) : ∀ {j : Nat} {r : List Int} {k : Int} {ts r2 : List Int}, rdA f j r = some (k, ts, r2) → ∀ s ∈ ts, sgR s
  | 0, _, _, _, _, h => by cases h
  | j + 1, r, k, ts, r2, h => by
    unfold rdA at h
    split at h
    · cases h
    · cases h
    · next t c r1 hr =>
      have h1 := hf _ _ _ hr
      split at h
      · cases h
        exact h1
      · split at h
        · split at h
          · cases h
          · next k0 ts0 r20 ha =>
            cases h
            have ih := rdA_sg hf ha
            intro s hs
            rcases List.mem_append.mp hs with hs | hs
            · exact h1 s hs
            · exact ih s hs
        · cases h
theorem rdT_sg : ∀ {n : Nat} {r t r1 : List Int}, rdT n r = some (t, r1) → ∀ s ∈ t, sgR s
  | 0, _, _, _, h => by cases h
  | n + 1, [], _, _, h => by cases h
  | n + 1, c :: r, t, r1, h => by
    unfold rdT at h
    split at h
    · next hc =>
      cases h
      intro s hs
      rw [List.mem_singleton] at hs
      subst hs
      exact Or.inl (by omega)
    · split at h
      · next hc =>
        split at h
        · cases h
          intro s hs
          rw [List.mem_singleton] at hs
          subst hs
          exact Or.inr (by omega)
        · next d r2 =>
          split at h
          · split at h
            · cases h
            · next k ts r3 ha =>
              cases h
              have ok := rdA_ok (fun r t r1 hr => rdT_ok (n := n) hr) ha
              have ih := rdA_sg (fun r t r1 hr => rdT_sg (n := n) hr) ha
              intro s hs
              rcases List.mem_cons.mp hs with hs | hs
              · subst hs
                exact Or.inr (by omega)
              · exact ih s hs
          · cases h
            intro s hs
            rw [List.mem_singleton] at hs
            subst hs
            exact Or.inr (by omega)
      · cases h
theorem sg_c {D : List Int} {a b c : Int} {r : List Int} (h0 : 0 ≤ a) (hb : b ≤ D.length) (h : seg D a b = c :: r) : a < b ∧ heZ D a b = c ∧ seg D (a + 1) b = r := by
  by_cases hab : a < b
  · rw [seg_cons h0 hab (by omega)] at h
    injection h with h1 h2
    exact ⟨hab, by unfold heZ; rw [if_pos hab]; exact h1, h2⟩
  · exfalso
    unfold seg at h
    rw [show b.toNat - a.toNat = 0 by omega, List.take_zero] at h
    cases h
theorem sg_0 {D : List Int} {a b : Int} (h0 : 0 ≤ a) (hb : b ≤ D.length) (h : seg D a b = []) : heZ D a b = 0 := by
  by_cases hab : a < b
  · rw [seg_cons h0 hab (by omega)] at h
    cases h
  · unfold heZ
    rw [if_neg hab]
def TR (w : Nat → xC) (m : Nat → Int) (D R St : List Int) : Prop := w 27 = .inr (8, mF m) ∧ w 37 = cI 2 D ∧ D.length = 60 ∧ w 38 = cI 0 R ∧ R.length = 600 ∧ w 49 = cI 0 St ∧ St.length = 400 ∧ 0 ≤ m 4 ∧ m 4 ≤ m 3 ∧ m 3 ≤ 60 ∧ (∀ i, 0 ≤ i → i < m 3 → 0 ≤ gZ D i ∧ gZ D i < 128) ∧ 0 ≤ m 7 ∧ m 7 ≤ m 4
def mT (m m' : Nat → Int) : Prop := ∀ i, i ≠ 4 → i ≠ 5 → i ≠ 7 → m' i = m i
theorem mT.rf (m : Nat → Int) : mT m m := fun _ _ _ _ => rfl
theorem mT.tr {m m' m'' : Nat → Int} (h : mT m m') (g : mT m' m'') : mT m m'' := fun i a b c => (g i a b c).trans (h i a b c)
theorem mT.s4 {m m' : Nat → Int} {v : Int} (h : mT m m') : mT m (st_ m' 4 v) := fun i a b c => by rw [st_ne a]; exact h i a b c
theorem mT.s5 {m m' : Nat → Int} {v : Int} (h : mT m m') : mT m (st_ m' 5 v) := fun i a b c => by rw [st_ne b]; exact h i a b c
theorem mT.s7 {m m' : Nat → Int} {v : Int} (h : mT m m') : mT m (st_ m' 7 v) := fun i a b c => by rw [st_ne c]; exact h i a b c
def lT (lv : xL) (o b : Int) : Prop := c1 lv ∧ x_lk lv 0 = some (.ref 30) ∧ x_lk lv 1 = some (.int (iZ o)) ∧ x_lk lv 2 = some (.int (iZ b))
theorem lT.st {lv : xL} {o b : Int} (h : lT lv o b) {q : Nat} {v : Value} (hq : 2 < q) (hv : v.category = 1) : lT ((q, v) :: lv.filter (x_keep q)) o b := by
  obtain ⟨h1, h2, h3, h4⟩ := h
  refine ⟨c1_st hv h1, ?_, ?_, ?_⟩ <;> rw [lk_s h1, if_neg (by omega)] <;> assumption
theorem lT.m {lv : xL} {o b : Int} (h : lT lv o b) (e : Int) : lT ((2, .int (iZ e)) :: lv.filter (x_keep 2)) o e := by
  obtain ⟨h1, h2, h3, h4⟩ := h
  refine ⟨c1_st rfl h1, ?_, ?_, ?_⟩ <;> rw [lk_s h1]
  · exact h2
  · exact h3
  · rfl
theorem lT.o {lv : xL} {o b : Int} (h : lT lv o b) (e : Int) : lT ((1, .int (iZ e)) :: lv.filter (x_keep 1)) e b := by
  obtain ⟨h1, h2, h3, h4⟩ := h
  refine ⟨c1_st rfl h1, ?_, ?_, ?_⟩ <;> rw [lk_s h1]
  · exact h2
  · rfl
  · exact h4
def ksR : List Nat := [27, 38, 49]
section TE
variable {w : Nat → xC} {N : Nat} {m : Nat → Int} {D R St : List Int} {lv : xL} {o c : Int}
theorem TR.up {w' : Nat → xC} {m' : Nat → Int} {R' St' : List Int} (h : TR w m D R St) (f : Fr ksR w w') (e27 : w' 27 = .inr (8, mF m')) (e38 : w' 38 = cI 0 R') (n38 : R'.length = 600) (e49 : w' 49 = cI 0 St') (n49 : St'.length = 400) (k3 : m' 3 = m 3) (k4 : 0 ≤ m' 4) (k4' : m' 4 ≤ m 3) (k7 : 0 ≤ m' 7) (k7' : m' 7 ≤ m' 4) : TR w' m' D R' St' := by
  obtain ⟨t1, t2, t3, t4, t5, t6, t7, t8, t9, t10, t11, t12, t13⟩ := h
  exact ⟨e27, (f 37 (by decide)).trans t2, t3, e38, n38, e49, n49, k4, by omega, by omega, fun i i0 i1 => t11 i i0 (by omega), k7, k7'⟩
theorem x96y (d : Nat) (hN : 53 ≤ N) (h : TR w m D R St) (e : heZ D (m 4) (m 3) = c) (c0 : 0 ≤ c) (c9 : c < 128) : Xc (d + 2) 96 [.ref 30, .int (iZ c)] (hp w N) (some (.int (iZ 1)), hp (uH w 27 (.inr (8, mF (st_ m 4 (m 4 + 1))))) N) := by
  obtain ⟨t1, t2, t3, t4, t5, t6, t7, t8, t9, t10, t11, t12, t13⟩ := h
  have X := m96 d hN t1 t2 t3 t8 t9 t10 t11 c c0 c9
  rw [decide_eq_true e, bZ_t] at X
  exact X
theorem x96n (d : Nat) (hN : 53 ≤ N) (h : TR w m D R St) (e : heZ D (m 4) (m 3) ≠ c) (c0 : 0 ≤ c) (c9 : c < 128) : Xc (d + 2) 96 [.ref 30, .int (iZ c)] (hp w N) (some (.int (iZ 0)), hp w N) := by
  obtain ⟨t1, t2, t3, t4, t5, t6, t7, t8, t9, t10, t11, t12, t13⟩ := h
  have X := m96 d hN t1 t2 t3 t8 t9 t10 t11 c c0 c9
  rw [decide_eq_false e, bZ_f, Int.add_zero, st_self rfl, uH_self t1] at X
  exact X
theorem T_4 (d : Nat) (hN : 53 ≤ N) (h : TR w m D R St) (hl : lT lv o 1) (h5 : m 5 = 0) : ∀ res, Gx q_k100 (d + 2) 20 ((3, .int (iZ (heZ D (m 4) (m 3)))) :: lv.filter (x_keep 3), [], hp w N) res → Gx q_k100 (d + 2) 4 (lv, [], hp w N) res := fun res hg => by
  obtain ⟨t1, t2, t3, t4, t5, t6, t7, t8, t9, t10, t11, t12, t13⟩ := h
  obtain ⟨hc, p0, p1, p2⟩ := hl
  refine Gx.run 20 (m95 (d + 1) hN t1 t2 t3 t8 t9 t10 t11) (fun C mm => ?_) hg
  simp (disch := first | (refine c1_id ?_; assumption) | (refine c1_st rfl ?_; repeat (first | assumption | refine c1_st rfl ?_)) | omega) [nx_l, nx_r, nx_n, x_st, x_push, x_bin, x_div, x_un, x_dup, x_pop, x_dup2, x_goto, x_ifeq, x_ifne, x_iflt, x_ifge, x_ifgt, x_ifle, x_iceq, x_icne, x_iclt, x_icge, x_icgt, x_icle, x_ifnull, x_ifnonnull, x_ldi, x_lda, x_sti, x_sta, x_iinc, x_gf, x_pf, x_ald, x_ast, x_aln, x_len, x_cl_, x_cv, x_cs, x_rc, x_r0, x_isT, x_oi, x_rv, x_ri, x_ra, Value.category, t100_0, t100_1, t100_2, t100_3, t100_4, t100_5, t100_8, t100_9, t100_12, t100_15, t100_16, t100_19, t100_20, t100_21, t100_23, t100_26, t100_27, t100_29, t100_32, t100_33, t100_34, t100_37, t100_38, t100_39, t100_42, t100_43, t100_44, t100_46, t100_47, t100_50, t100_51, t100_52, t100_55, t100_56, t100_59, t100_62, t100_63, t100_64, t100_67, t100_68, t100_69, t100_72, t100_73, t100_75, t100_76, t100_77, t100_79, t100_80, t100_81, t100_82, t100_85, t100_86, t100_88, t100_91, t100_92, t100_93, t100_96, t100_97, t100_100, t100_101, t100_102, t100_105, t100_106, t100_107, t100_108, t100_111, t100_112, t100_115, t100_116, t100_119, t100_120, t100_121, t100_122, t100_123, t100_124, t100_125, t100_126, t100_129, t100_130, t100_131, t100_134, t100_135, t100_138, t100_139, t100_142, t100_143, t100_146, t100_149, t100_150, t100_152, t100_155, t100_158, t100_159, t100_160, t100_161, t100_164, t100_165, t100_166, t100_167, t100_168, t100_170, t100_171, t100_172, t100_175, t100_177, t100_178, t100_180, t100_181, t100_182, t100_183, t100_184, t100_187, t100_188, t100_191, t100_192, t100_195, t100_196, t100_199, t100_201, t100_202, t100_205, t100_208, t100_209, t100_212, t100_214, t100_215, t100_218, t100_219, t100_222, t100_224, t100_225, t100_226, t100_227, t100_228, t100_231, t100_232, t100_234, t100_237, t100_240, t100_243, t100_246, t100_247, t100_248, t100_251, t100_254, t100_257, lk_s, hp_get, hp_set, uH_at, uH_ne, uH_upd, uH_swap, iZ_add, iZ_sub, iZ_mul, iZ_neg, iZ_lt, iZ_le, iZ_eq, iZ_div, iZ_of, ix_Z, gZ_map, gZ_mapI, gZ_map', le_0, le_s, sZ_map, sZ_len, bZ_0, bZ_inj, bZ_t, bZ_f, nr_i, nr_0, nr_1, nr_b, ft_i, ft_b, ft_0, ft_1, zl_0, zl_1, zl_3, zl_4, zl_40, zl_41, zl_44, zl_65, zl_90, zl_97, zl_100, mF_len, mg_0, mg_1, mg_2, mg_3, mg_4, mg_5, mg_6, mg_7, mg_8, mg_9, mg_10, mg_11, mg_12, mg_13, mg_14, mg_15, mg_16, mg_17, mg_18, mg_19, mg_20, mg_21, mg_22, mg_23, mg_24, mg_25, mg_26, mg_27, mg_28, mg_29, mg_30, mg_31, mg_32, mg_33, mg_34, mg_35, mg_36, mg_37, mg_38, ms_0, ms_1, ms_2, ms_13, ms_14, ms_15, ms_16, ms_21, ms_22, ms_23, ms_24, ms_28, ms_36, ms_37, ms_38, st_at, st_ne, st_st, st_swap, p0, p1, p2, t1, h5, mm, -List.filter_filter, -List.getElem?_map, -List.getD_eq_getElem?_getD]
theorem T_20v (d : Nat) (hN : 53 ≤ N) (h : TR w m D R St) (hl : lT lv o 1) (l3 : x_lk lv 3 = some (.int (iZ c))) (a1 : 65 ≤ c) (a2 : c ≤ 90) : ∀ res, Gx q_k100 (d + 2) 134 ((2, .int (iZ 0)) :: lv.filter (x_keep 2), [], hp (uH (uH w 27 (.inr (8, mF (st_ (st_ m 4 (m 4 + 1)) 7 (m 7 + 1))))) 38 (cI 0 (sZ R (m 7) (c - 65)))) N) res → Gx q_k100 (d + 2) 20 (lv, [], hp w N) res := fun res hg => by
  obtain ⟨t1, t2, t3, t4, t5, t6, t7, t8, t9, t10, t11, t12, t13⟩ := h
  obtain ⟨hc, p0, p1, p2⟩ := hl
  have e7 : st_ m 4 (m 4 + 1) 7 = m 7 := st_ne (by decide)
  have X := m98 (w := uH w 27 (.inr (8, mF (st_ m 4 (m 4 + 1))))) (m := st_ m 4 (m 4 + 1)) (d + 1) hN (uH_at _ _ _) (by rw [uH_ne (by decide)]; exact t4) t5 (by omega) (by omega) (c - 65)
  rw [e7, uH_upd] at X
  refine Gx.run 60 X (fun C mm => ?_) hg
  have b1 : ¬ c < 65 := by omega
  have b2 : ¬ 90 < c := by omega
  simp (disch := first | (refine c1_id ?_; assumption) | (refine c1_st rfl ?_; repeat (first | assumption | refine c1_st rfl ?_)) | omega) [nx_l, nx_r, nx_n, x_st, x_push, x_bin, x_div, x_un, x_dup, x_pop, x_dup2, x_goto, x_ifeq, x_ifne, x_iflt, x_ifge, x_ifgt, x_ifle, x_iceq, x_icne, x_iclt, x_icge, x_icgt, x_icle, x_ifnull, x_ifnonnull, x_ldi, x_lda, x_sti, x_sta, x_iinc, x_gf, x_pf, x_ald, x_ast, x_aln, x_len, x_cl_, x_cv, x_cs, x_rc, x_r0, x_isT, x_oi, x_rv, x_ri, x_ra, Value.category, t100_0, t100_1, t100_2, t100_3, t100_4, t100_5, t100_8, t100_9, t100_12, t100_15, t100_16, t100_19, t100_20, t100_21, t100_23, t100_26, t100_27, t100_29, t100_32, t100_33, t100_34, t100_37, t100_38, t100_39, t100_42, t100_43, t100_44, t100_46, t100_47, t100_50, t100_51, t100_52, t100_55, t100_56, t100_59, t100_62, t100_63, t100_64, t100_67, t100_68, t100_69, t100_72, t100_73, t100_75, t100_76, t100_77, t100_79, t100_80, t100_81, t100_82, t100_85, t100_86, t100_88, t100_91, t100_92, t100_93, t100_96, t100_97, t100_100, t100_101, t100_102, t100_105, t100_106, t100_107, t100_108, t100_111, t100_112, t100_115, t100_116, t100_119, t100_120, t100_121, t100_122, t100_123, t100_124, t100_125, t100_126, t100_129, t100_130, t100_131, t100_134, t100_135, t100_138, t100_139, t100_142, t100_143, t100_146, t100_149, t100_150, t100_152, t100_155, t100_158, t100_159, t100_160, t100_161, t100_164, t100_165, t100_166, t100_167, t100_168, t100_170, t100_171, t100_172, t100_175, t100_177, t100_178, t100_180, t100_181, t100_182, t100_183, t100_184, t100_187, t100_188, t100_191, t100_192, t100_195, t100_196, t100_199, t100_201, t100_202, t100_205, t100_208, t100_209, t100_212, t100_214, t100_215, t100_218, t100_219, t100_222, t100_224, t100_225, t100_226, t100_227, t100_228, t100_231, t100_232, t100_234, t100_237, t100_240, t100_243, t100_246, t100_247, t100_248, t100_251, t100_254, t100_257, lk_s, hp_get, hp_set, uH_at, uH_ne, uH_upd, uH_swap, iZ_add, iZ_sub, iZ_mul, iZ_neg, iZ_lt, iZ_le, iZ_eq, iZ_div, iZ_of, ix_Z, gZ_map, gZ_mapI, gZ_map', le_0, le_s, sZ_map, sZ_len, bZ_0, bZ_inj, bZ_t, bZ_f, nr_i, nr_0, nr_1, nr_b, ft_i, ft_b, ft_0, ft_1, zl_0, zl_1, zl_3, zl_4, zl_40, zl_41, zl_44, zl_65, zl_90, zl_97, zl_100, mF_len, mg_0, mg_1, mg_2, mg_3, mg_4, mg_5, mg_6, mg_7, mg_8, mg_9, mg_10, mg_11, mg_12, mg_13, mg_14, mg_15, mg_16, mg_17, mg_18, mg_19, mg_20, mg_21, mg_22, mg_23, mg_24, mg_25, mg_26, mg_27, mg_28, mg_29, mg_30, mg_31, mg_32, mg_33, mg_34, mg_35, mg_36, mg_37, mg_38, ms_0, ms_1, ms_2, ms_13, ms_14, ms_15, ms_16, ms_21, ms_22, ms_23, ms_24, ms_28, ms_36, ms_37, ms_38, st_at, st_ne, st_st, st_swap, p0, p1, p2, l3, t1, b1, b2, mm, -List.filter_filter, -List.getElem?_map, -List.getD_eq_getElem?_getD]
theorem T_20f (d : Nat) (hN : 53 ≤ N) (h : TR w m D R St) (hl : lT lv o 1) (l3 : x_lk lv 3 = some (.int (iZ c))) (a1 : 97 ≤ c) (a2 : c ≤ 122) : ∀ res, Gx q_k100 (d + 2) 85 (lv, [], hp (uH (uH w 27 (.inr (8, mF (st_ (st_ m 4 (m 4 + 1)) 7 (m 7 + 1))))) 38 (cI 0 (sZ R (m 7) (100 + 4 * (c - 97))))) N) res → Gx q_k100 (d + 2) 20 (lv, [], hp w N) res := fun res hg => by
  obtain ⟨t1, t2, t3, t4, t5, t6, t7, t8, t9, t10, t11, t12, t13⟩ := h
  obtain ⟨hc, p0, p1, p2⟩ := hl
  have e7 : st_ m 4 (m 4 + 1) 7 = m 7 := st_ne (by decide)
  have X := m98 (w := uH w 27 (.inr (8, mF (st_ m 4 (m 4 + 1))))) (m := st_ m 4 (m 4 + 1)) (d + 1) hN (uH_at _ _ _) (by rw [uH_ne (by decide)]; exact t4) t5 (by omega) (by omega) (100 + 4 * (c - 97))
  rw [e7, uH_upd] at X
  have Y := m97 (d + 1) w N c (by omega) (by omega)
  rw [decide_eq_true ⟨a1, a2⟩, bZ_t] at Y
  refine Gx.run 60 (X.and Y) (fun C mm => ?_) hg
  obtain ⟨mm1, mm2⟩ := mm
  have b1 : ¬ c < 65 := by omega
  have b2 : 90 < c := by omega
  simp (disch := first | (refine c1_id ?_; assumption) | (refine c1_st rfl ?_; repeat (first | assumption | refine c1_st rfl ?_)) | omega) [nx_l, nx_r, nx_n, x_st, x_push, x_bin, x_div, x_un, x_dup, x_pop, x_dup2, x_goto, x_ifeq, x_ifne, x_iflt, x_ifge, x_ifgt, x_ifle, x_iceq, x_icne, x_iclt, x_icge, x_icgt, x_icle, x_ifnull, x_ifnonnull, x_ldi, x_lda, x_sti, x_sta, x_iinc, x_gf, x_pf, x_ald, x_ast, x_aln, x_len, x_cl_, x_cv, x_cs, x_rc, x_r0, x_isT, x_oi, x_rv, x_ri, x_ra, Value.category, t100_0, t100_1, t100_2, t100_3, t100_4, t100_5, t100_8, t100_9, t100_12, t100_15, t100_16, t100_19, t100_20, t100_21, t100_23, t100_26, t100_27, t100_29, t100_32, t100_33, t100_34, t100_37, t100_38, t100_39, t100_42, t100_43, t100_44, t100_46, t100_47, t100_50, t100_51, t100_52, t100_55, t100_56, t100_59, t100_62, t100_63, t100_64, t100_67, t100_68, t100_69, t100_72, t100_73, t100_75, t100_76, t100_77, t100_79, t100_80, t100_81, t100_82, t100_85, t100_86, t100_88, t100_91, t100_92, t100_93, t100_96, t100_97, t100_100, t100_101, t100_102, t100_105, t100_106, t100_107, t100_108, t100_111, t100_112, t100_115, t100_116, t100_119, t100_120, t100_121, t100_122, t100_123, t100_124, t100_125, t100_126, t100_129, t100_130, t100_131, t100_134, t100_135, t100_138, t100_139, t100_142, t100_143, t100_146, t100_149, t100_150, t100_152, t100_155, t100_158, t100_159, t100_160, t100_161, t100_164, t100_165, t100_166, t100_167, t100_168, t100_170, t100_171, t100_172, t100_175, t100_177, t100_178, t100_180, t100_181, t100_182, t100_183, t100_184, t100_187, t100_188, t100_191, t100_192, t100_195, t100_196, t100_199, t100_201, t100_202, t100_205, t100_208, t100_209, t100_212, t100_214, t100_215, t100_218, t100_219, t100_222, t100_224, t100_225, t100_226, t100_227, t100_228, t100_231, t100_232, t100_234, t100_237, t100_240, t100_243, t100_246, t100_247, t100_248, t100_251, t100_254, t100_257, lk_s, hp_get, hp_set, uH_at, uH_ne, uH_upd, uH_swap, iZ_add, iZ_sub, iZ_mul, iZ_neg, iZ_lt, iZ_le, iZ_eq, iZ_div, iZ_of, ix_Z, gZ_map, gZ_mapI, gZ_map', le_0, le_s, sZ_map, sZ_len, bZ_0, bZ_inj, bZ_t, bZ_f, nr_i, nr_0, nr_1, nr_b, ft_i, ft_b, ft_0, ft_1, zl_0, zl_1, zl_3, zl_4, zl_40, zl_41, zl_44, zl_65, zl_90, zl_97, zl_100, mF_len, mg_0, mg_1, mg_2, mg_3, mg_4, mg_5, mg_6, mg_7, mg_8, mg_9, mg_10, mg_11, mg_12, mg_13, mg_14, mg_15, mg_16, mg_17, mg_18, mg_19, mg_20, mg_21, mg_22, mg_23, mg_24, mg_25, mg_26, mg_27, mg_28, mg_29, mg_30, mg_31, mg_32, mg_33, mg_34, mg_35, mg_36, mg_37, mg_38, ms_0, ms_1, ms_2, ms_13, ms_14, ms_15, ms_16, ms_21, ms_22, ms_23, ms_24, ms_28, ms_36, ms_37, ms_38, st_at, st_ne, st_st, st_swap, p0, p1, p2, l3, t1, b1, b2, mm1, mm2, -List.filter_filter, -List.getElem?_map, -List.getD_eq_getElem?_getD]
theorem T_85n (d : Nat) (hN : 53 ≤ N) (h : TR w m D R St) (hl : lT lv o 1) (e : heZ D (m 4) (m 3) ≠ 40) : ∀ res, Gx q_k100 (d + 2) 134 ((2, .int (iZ 0)) :: lv.filter (x_keep 2), [], hp w N) res → Gx q_k100 (d + 2) 85 (lv, [], hp w N) res := fun res hg => by
  have X := x96n d hN h e (by omega) (by omega)
  have t1 := h.1
  obtain ⟨hc, p0, p1, p2⟩ := hl
  refine Gx.run 20 X (fun C mm => ?_) hg
  simp (disch := first | (refine c1_id ?_; assumption) | (refine c1_st rfl ?_; repeat (first | assumption | refine c1_st rfl ?_)) | omega) [nx_l, nx_r, nx_n, x_st, x_push, x_bin, x_div, x_un, x_dup, x_pop, x_dup2, x_goto, x_ifeq, x_ifne, x_iflt, x_ifge, x_ifgt, x_ifle, x_iceq, x_icne, x_iclt, x_icge, x_icgt, x_icle, x_ifnull, x_ifnonnull, x_ldi, x_lda, x_sti, x_sta, x_iinc, x_gf, x_pf, x_ald, x_ast, x_aln, x_len, x_cl_, x_cv, x_cs, x_rc, x_r0, x_isT, x_oi, x_rv, x_ri, x_ra, Value.category, t100_0, t100_1, t100_2, t100_3, t100_4, t100_5, t100_8, t100_9, t100_12, t100_15, t100_16, t100_19, t100_20, t100_21, t100_23, t100_26, t100_27, t100_29, t100_32, t100_33, t100_34, t100_37, t100_38, t100_39, t100_42, t100_43, t100_44, t100_46, t100_47, t100_50, t100_51, t100_52, t100_55, t100_56, t100_59, t100_62, t100_63, t100_64, t100_67, t100_68, t100_69, t100_72, t100_73, t100_75, t100_76, t100_77, t100_79, t100_80, t100_81, t100_82, t100_85, t100_86, t100_88, t100_91, t100_92, t100_93, t100_96, t100_97, t100_100, t100_101, t100_102, t100_105, t100_106, t100_107, t100_108, t100_111, t100_112, t100_115, t100_116, t100_119, t100_120, t100_121, t100_122, t100_123, t100_124, t100_125, t100_126, t100_129, t100_130, t100_131, t100_134, t100_135, t100_138, t100_139, t100_142, t100_143, t100_146, t100_149, t100_150, t100_152, t100_155, t100_158, t100_159, t100_160, t100_161, t100_164, t100_165, t100_166, t100_167, t100_168, t100_170, t100_171, t100_172, t100_175, t100_177, t100_178, t100_180, t100_181, t100_182, t100_183, t100_184, t100_187, t100_188, t100_191, t100_192, t100_195, t100_196, t100_199, t100_201, t100_202, t100_205, t100_208, t100_209, t100_212, t100_214, t100_215, t100_218, t100_219, t100_222, t100_224, t100_225, t100_226, t100_227, t100_228, t100_231, t100_232, t100_234, t100_237, t100_240, t100_243, t100_246, t100_247, t100_248, t100_251, t100_254, t100_257, lk_s, hp_get, hp_set, uH_at, uH_ne, uH_upd, uH_swap, iZ_add, iZ_sub, iZ_mul, iZ_neg, iZ_lt, iZ_le, iZ_eq, iZ_div, iZ_of, ix_Z, gZ_map, gZ_mapI, gZ_map', le_0, le_s, sZ_map, sZ_len, bZ_0, bZ_inj, bZ_t, bZ_f, nr_i, nr_0, nr_1, nr_b, ft_i, ft_b, ft_0, ft_1, zl_0, zl_1, zl_3, zl_4, zl_40, zl_41, zl_44, zl_65, zl_90, zl_97, zl_100, mF_len, mg_0, mg_1, mg_2, mg_3, mg_4, mg_5, mg_6, mg_7, mg_8, mg_9, mg_10, mg_11, mg_12, mg_13, mg_14, mg_15, mg_16, mg_17, mg_18, mg_19, mg_20, mg_21, mg_22, mg_23, mg_24, mg_25, mg_26, mg_27, mg_28, mg_29, mg_30, mg_31, mg_32, mg_33, mg_34, mg_35, mg_36, mg_37, mg_38, ms_0, ms_1, ms_2, ms_13, ms_14, ms_15, ms_16, ms_21, ms_22, ms_23, ms_24, ms_28, ms_36, ms_37, ms_38, st_at, st_ne, st_st, st_swap, p0, p1, p2, t1, mm, -List.filter_filter, -List.getElem?_map, -List.getD_eq_getElem?_getD]
theorem T_85y (d : Nat) (hN : 53 ≤ N) (h : TR w m D R St) (hl : lT lv o 1) (e : heZ D (m 4) (m 3) = 40) (o0 : 0 ≤ o) (o9 : o < 400) (h7 : 0 < m 7) : ∀ res, Gx q_k100 (d + 2) 4 ((1, .int (iZ (o + 1))) :: List.filter (x_keep 1) ((2, .int (iZ 1)) :: lv.filter (x_keep 2)), [], hp (uH (uH (uH w 27 (.inr (8, mF (st_ m 4 (m 4 + 1))))) 38 (cI 0 (sZ R (m 7 - 1) (gZ R (m 7 - 1) + 1)))) 49 (cI 0 (sZ St o (m 7 - 1)))) N) res → Gx q_k100 (d + 2) 85 (lv, [], hp w N) res := fun res hg => by
  have X := x96y d hN h e (by omega) (by omega)
  obtain ⟨t1, t2, t3, t4, t5, t6, t7, t8, t9, t10, t11, t12, t13⟩ := h
  obtain ⟨hc, p0, p1, p2⟩ := hl
  refine Gx.run 80 X (fun C mm => ?_) hg
  simp (disch := first | (refine c1_id ?_; assumption) | (refine c1_st rfl ?_; repeat (first | assumption | refine c1_st rfl ?_)) | omega) [nx_l, nx_r, nx_n, x_st, x_push, x_bin, x_div, x_un, x_dup, x_pop, x_dup2, x_goto, x_ifeq, x_ifne, x_iflt, x_ifge, x_ifgt, x_ifle, x_iceq, x_icne, x_iclt, x_icge, x_icgt, x_icle, x_ifnull, x_ifnonnull, x_ldi, x_lda, x_sti, x_sta, x_iinc, x_gf, x_pf, x_ald, x_ast, x_aln, x_len, x_cl_, x_cv, x_cs, x_rc, x_r0, x_isT, x_oi, x_rv, x_ri, x_ra, Value.category, t100_0, t100_1, t100_2, t100_3, t100_4, t100_5, t100_8, t100_9, t100_12, t100_15, t100_16, t100_19, t100_20, t100_21, t100_23, t100_26, t100_27, t100_29, t100_32, t100_33, t100_34, t100_37, t100_38, t100_39, t100_42, t100_43, t100_44, t100_46, t100_47, t100_50, t100_51, t100_52, t100_55, t100_56, t100_59, t100_62, t100_63, t100_64, t100_67, t100_68, t100_69, t100_72, t100_73, t100_75, t100_76, t100_77, t100_79, t100_80, t100_81, t100_82, t100_85, t100_86, t100_88, t100_91, t100_92, t100_93, t100_96, t100_97, t100_100, t100_101, t100_102, t100_105, t100_106, t100_107, t100_108, t100_111, t100_112, t100_115, t100_116, t100_119, t100_120, t100_121, t100_122, t100_123, t100_124, t100_125, t100_126, t100_129, t100_130, t100_131, t100_134, t100_135, t100_138, t100_139, t100_142, t100_143, t100_146, t100_149, t100_150, t100_152, t100_155, t100_158, t100_159, t100_160, t100_161, t100_164, t100_165, t100_166, t100_167, t100_168, t100_170, t100_171, t100_172, t100_175, t100_177, t100_178, t100_180, t100_181, t100_182, t100_183, t100_184, t100_187, t100_188, t100_191, t100_192, t100_195, t100_196, t100_199, t100_201, t100_202, t100_205, t100_208, t100_209, t100_212, t100_214, t100_215, t100_218, t100_219, t100_222, t100_224, t100_225, t100_226, t100_227, t100_228, t100_231, t100_232, t100_234, t100_237, t100_240, t100_243, t100_246, t100_247, t100_248, t100_251, t100_254, t100_257, lk_s, hp_get, hp_set, uH_at, uH_ne, uH_upd, uH_swap, iZ_add, iZ_sub, iZ_mul, iZ_neg, iZ_lt, iZ_le, iZ_eq, iZ_div, iZ_of, ix_Z, gZ_map, gZ_mapI, gZ_map', le_0, le_s, sZ_map, sZ_len, bZ_0, bZ_inj, bZ_t, bZ_f, nr_i, nr_0, nr_1, nr_b, ft_i, ft_b, ft_0, ft_1, zl_0, zl_1, zl_3, zl_4, zl_40, zl_41, zl_44, zl_65, zl_90, zl_97, zl_100, mF_len, mg_0, mg_1, mg_2, mg_3, mg_4, mg_5, mg_6, mg_7, mg_8, mg_9, mg_10, mg_11, mg_12, mg_13, mg_14, mg_15, mg_16, mg_17, mg_18, mg_19, mg_20, mg_21, mg_22, mg_23, mg_24, mg_25, mg_26, mg_27, mg_28, mg_29, mg_30, mg_31, mg_32, mg_33, mg_34, mg_35, mg_36, mg_37, mg_38, ms_0, ms_1, ms_2, ms_13, ms_14, ms_15, ms_16, ms_21, ms_22, ms_23, ms_24, ms_28, ms_36, ms_37, ms_38, st_at, st_ne, st_st, st_swap, p0, p1, p2, t1, mm, t4, t6, -List.filter_filter, -List.getElem?_map, -List.getD_eq_getElem?_getD]
theorem T_20b (d : Nat) (hN : 53 ≤ N) (h : TR w m D R St) (hl : lT lv o 1) (l3 : x_lk lv 3 = some (.int (iZ c))) (c0 : 0 ≤ c) (c9 : c < 128) (a1 : ¬ (65 ≤ c ∧ c ≤ 90)) (a2 : ¬ (97 ≤ c ∧ c ≤ 122)) : Gx q_k100 (d + 2) 20 (lv, [], hp w N) (none, hp (uH w 27 (.inr (8, mF (st_ m 5 1)))) N) := by
  obtain ⟨t1, t2, t3, t4, t5, t6, t7, t8, t9, t10, t11, t12, t13⟩ := h
  obtain ⟨hc, p0, p1, p2⟩ := hl
  have Y := m97 (d + 1) w N c (by omega) (by omega)
  rw [decide_eq_false a2, bZ_f] at Y
  refine Gx.fin 60 Y (fun C mm => ?_)
  by_cases b1 : c < 65
  · simp (disch := first | (refine c1_id ?_; assumption) | (refine c1_st rfl ?_; repeat (first | assumption | refine c1_st rfl ?_)) | omega) [nx_l, nx_r, nx_n, x_st, x_push, x_bin, x_div, x_un, x_dup, x_pop, x_dup2, x_goto, x_ifeq, x_ifne, x_iflt, x_ifge, x_ifgt, x_ifle, x_iceq, x_icne, x_iclt, x_icge, x_icgt, x_icle, x_ifnull, x_ifnonnull, x_ldi, x_lda, x_sti, x_sta, x_iinc, x_gf, x_pf, x_ald, x_ast, x_aln, x_len, x_cl_, x_cv, x_cs, x_rc, x_r0, x_isT, x_oi, x_rv, x_ri, x_ra, Value.category, t100_0, t100_1, t100_2, t100_3, t100_4, t100_5, t100_8, t100_9, t100_12, t100_15, t100_16, t100_19, t100_20, t100_21, t100_23, t100_26, t100_27, t100_29, t100_32, t100_33, t100_34, t100_37, t100_38, t100_39, t100_42, t100_43, t100_44, t100_46, t100_47, t100_50, t100_51, t100_52, t100_55, t100_56, t100_59, t100_62, t100_63, t100_64, t100_67, t100_68, t100_69, t100_72, t100_73, t100_75, t100_76, t100_77, t100_79, t100_80, t100_81, t100_82, t100_85, t100_86, t100_88, t100_91, t100_92, t100_93, t100_96, t100_97, t100_100, t100_101, t100_102, t100_105, t100_106, t100_107, t100_108, t100_111, t100_112, t100_115, t100_116, t100_119, t100_120, t100_121, t100_122, t100_123, t100_124, t100_125, t100_126, t100_129, t100_130, t100_131, t100_134, t100_135, t100_138, t100_139, t100_142, t100_143, t100_146, t100_149, t100_150, t100_152, t100_155, t100_158, t100_159, t100_160, t100_161, t100_164, t100_165, t100_166, t100_167, t100_168, t100_170, t100_171, t100_172, t100_175, t100_177, t100_178, t100_180, t100_181, t100_182, t100_183, t100_184, t100_187, t100_188, t100_191, t100_192, t100_195, t100_196, t100_199, t100_201, t100_202, t100_205, t100_208, t100_209, t100_212, t100_214, t100_215, t100_218, t100_219, t100_222, t100_224, t100_225, t100_226, t100_227, t100_228, t100_231, t100_232, t100_234, t100_237, t100_240, t100_243, t100_246, t100_247, t100_248, t100_251, t100_254, t100_257, lk_s, hp_get, hp_set, uH_at, uH_ne, uH_upd, uH_swap, iZ_add, iZ_sub, iZ_mul, iZ_neg, iZ_lt, iZ_le, iZ_eq, iZ_div, iZ_of, ix_Z, gZ_map, gZ_mapI, gZ_map', le_0, le_s, sZ_map, sZ_len, bZ_0, bZ_inj, bZ_t, bZ_f, nr_i, nr_0, nr_1, nr_b, ft_i, ft_b, ft_0, ft_1, zl_0, zl_1, zl_3, zl_4, zl_40, zl_41, zl_44, zl_65, zl_90, zl_97, zl_100, mF_len, mg_0, mg_1, mg_2, mg_3, mg_4, mg_5, mg_6, mg_7, mg_8, mg_9, mg_10, mg_11, mg_12, mg_13, mg_14, mg_15, mg_16, mg_17, mg_18, mg_19, mg_20, mg_21, mg_22, mg_23, mg_24, mg_25, mg_26, mg_27, mg_28, mg_29, mg_30, mg_31, mg_32, mg_33, mg_34, mg_35, mg_36, mg_37, mg_38, ms_0, ms_1, ms_2, ms_13, ms_14, ms_15, ms_16, ms_21, ms_22, ms_23, ms_24, ms_28, ms_36, ms_37, ms_38, st_at, st_ne, st_st, st_swap, p0, p1, p2, l3, t1, b1, mm, -List.filter_filter, -List.getElem?_map, -List.getD_eq_getElem?_getD]
  · have b2 : 90 < c := by omega
    simp (disch := first | (refine c1_id ?_; assumption) | (refine c1_st rfl ?_; repeat (first | assumption | refine c1_st rfl ?_)) | omega) [nx_l, nx_r, nx_n, x_st, x_push, x_bin, x_div, x_un, x_dup, x_pop, x_dup2, x_goto, x_ifeq, x_ifne, x_iflt, x_ifge, x_ifgt, x_ifle, x_iceq, x_icne, x_iclt, x_icge, x_icgt, x_icle, x_ifnull, x_ifnonnull, x_ldi, x_lda, x_sti, x_sta, x_iinc, x_gf, x_pf, x_ald, x_ast, x_aln, x_len, x_cl_, x_cv, x_cs, x_rc, x_r0, x_isT, x_oi, x_rv, x_ri, x_ra, Value.category, t100_0, t100_1, t100_2, t100_3, t100_4, t100_5, t100_8, t100_9, t100_12, t100_15, t100_16, t100_19, t100_20, t100_21, t100_23, t100_26, t100_27, t100_29, t100_32, t100_33, t100_34, t100_37, t100_38, t100_39, t100_42, t100_43, t100_44, t100_46, t100_47, t100_50, t100_51, t100_52, t100_55, t100_56, t100_59, t100_62, t100_63, t100_64, t100_67, t100_68, t100_69, t100_72, t100_73, t100_75, t100_76, t100_77, t100_79, t100_80, t100_81, t100_82, t100_85, t100_86, t100_88, t100_91, t100_92, t100_93, t100_96, t100_97, t100_100, t100_101, t100_102, t100_105, t100_106, t100_107, t100_108, t100_111, t100_112, t100_115, t100_116, t100_119, t100_120, t100_121, t100_122, t100_123, t100_124, t100_125, t100_126, t100_129, t100_130, t100_131, t100_134, t100_135, t100_138, t100_139, t100_142, t100_143, t100_146, t100_149, t100_150, t100_152, t100_155, t100_158, t100_159, t100_160, t100_161, t100_164, t100_165, t100_166, t100_167, t100_168, t100_170, t100_171, t100_172, t100_175, t100_177, t100_178, t100_180, t100_181, t100_182, t100_183, t100_184, t100_187, t100_188, t100_191, t100_192, t100_195, t100_196, t100_199, t100_201, t100_202, t100_205, t100_208, t100_209, t100_212, t100_214, t100_215, t100_218, t100_219, t100_222, t100_224, t100_225, t100_226, t100_227, t100_228, t100_231, t100_232, t100_234, t100_237, t100_240, t100_243, t100_246, t100_247, t100_248, t100_251, t100_254, t100_257, lk_s, hp_get, hp_set, uH_at, uH_ne, uH_upd, uH_swap, iZ_add, iZ_sub, iZ_mul, iZ_neg, iZ_lt, iZ_le, iZ_eq, iZ_div, iZ_of, ix_Z, gZ_map, gZ_mapI, gZ_map', le_0, le_s, sZ_map, sZ_len, bZ_0, bZ_inj, bZ_t, bZ_f, nr_i, nr_0, nr_1, nr_b, ft_i, ft_b, ft_0, ft_1, zl_0, zl_1, zl_3, zl_4, zl_40, zl_41, zl_44, zl_65, zl_90, zl_97, zl_100, mF_len, mg_0, mg_1, mg_2, mg_3, mg_4, mg_5, mg_6, mg_7, mg_8, mg_9, mg_10, mg_11, mg_12, mg_13, mg_14, mg_15, mg_16, mg_17, mg_18, mg_19, mg_20, mg_21, mg_22, mg_23, mg_24, mg_25, mg_26, mg_27, mg_28, mg_29, mg_30, mg_31, mg_32, mg_33, mg_34, mg_35, mg_36, mg_37, mg_38, ms_0, ms_1, ms_2, ms_13, ms_14, ms_15, ms_16, ms_21, ms_22, ms_23, ms_24, ms_28, ms_36, ms_37, ms_38, st_at, st_ne, st_st, st_swap, p0, p1, p2, l3, t1, b1, b2, mm, -List.filter_filter, -List.getElem?_map, -List.getD_eq_getElem?_getD]
theorem T_134 (d : Nat) (h : TR w m D R St) (h5 : m 5 = 0) (hl : lT lv (o + 1) 0) (o0 : 0 ≤ o) (o9 : o < 400) (hN : 53 ≤ N) : ∀ res, Gx q_k100 (d + 2) 149 (lv, [], hp w N) res → Gx q_k100 (d + 2) 134 (lv, [], hp w N) res := fun res hg => by
  obtain ⟨t1, t2, t3, t4, t5, t6, t7, t8, t9, t10, t11, t12, t13⟩ := h
  obtain ⟨hc, p0, p1, p2⟩ := hl
  refine Gx.run 20 Cs.tt (fun C _ => ?_) hg
  have b1 : ¬ o + 1 ≤ 0 := by omega
  simp (disch := first | (refine c1_id ?_; assumption) | (refine c1_st rfl ?_; repeat (first | assumption | refine c1_st rfl ?_)) | omega) [nx_l, nx_r, nx_n, x_st, x_push, x_bin, x_div, x_un, x_dup, x_pop, x_dup2, x_goto, x_ifeq, x_ifne, x_iflt, x_ifge, x_ifgt, x_ifle, x_iceq, x_icne, x_iclt, x_icge, x_icgt, x_icle, x_ifnull, x_ifnonnull, x_ldi, x_lda, x_sti, x_sta, x_iinc, x_gf, x_pf, x_ald, x_ast, x_aln, x_len, x_cl_, x_cv, x_cs, x_rc, x_r0, x_isT, x_oi, x_rv, x_ri, x_ra, Value.category, t100_0, t100_1, t100_2, t100_3, t100_4, t100_5, t100_8, t100_9, t100_12, t100_15, t100_16, t100_19, t100_20, t100_21, t100_23, t100_26, t100_27, t100_29, t100_32, t100_33, t100_34, t100_37, t100_38, t100_39, t100_42, t100_43, t100_44, t100_46, t100_47, t100_50, t100_51, t100_52, t100_55, t100_56, t100_59, t100_62, t100_63, t100_64, t100_67, t100_68, t100_69, t100_72, t100_73, t100_75, t100_76, t100_77, t100_79, t100_80, t100_81, t100_82, t100_85, t100_86, t100_88, t100_91, t100_92, t100_93, t100_96, t100_97, t100_100, t100_101, t100_102, t100_105, t100_106, t100_107, t100_108, t100_111, t100_112, t100_115, t100_116, t100_119, t100_120, t100_121, t100_122, t100_123, t100_124, t100_125, t100_126, t100_129, t100_130, t100_131, t100_134, t100_135, t100_138, t100_139, t100_142, t100_143, t100_146, t100_149, t100_150, t100_152, t100_155, t100_158, t100_159, t100_160, t100_161, t100_164, t100_165, t100_166, t100_167, t100_168, t100_170, t100_171, t100_172, t100_175, t100_177, t100_178, t100_180, t100_181, t100_182, t100_183, t100_184, t100_187, t100_188, t100_191, t100_192, t100_195, t100_196, t100_199, t100_201, t100_202, t100_205, t100_208, t100_209, t100_212, t100_214, t100_215, t100_218, t100_219, t100_222, t100_224, t100_225, t100_226, t100_227, t100_228, t100_231, t100_232, t100_234, t100_237, t100_240, t100_243, t100_246, t100_247, t100_248, t100_251, t100_254, t100_257, lk_s, hp_get, hp_set, uH_at, uH_ne, uH_upd, uH_swap, iZ_add, iZ_sub, iZ_mul, iZ_neg, iZ_lt, iZ_le, iZ_eq, iZ_div, iZ_of, ix_Z, gZ_map, gZ_mapI, gZ_map', le_0, le_s, sZ_map, sZ_len, bZ_0, bZ_inj, bZ_t, bZ_f, nr_i, nr_0, nr_1, nr_b, ft_i, ft_b, ft_0, ft_1, zl_0, zl_1, zl_3, zl_4, zl_40, zl_41, zl_44, zl_65, zl_90, zl_97, zl_100, mF_len, mg_0, mg_1, mg_2, mg_3, mg_4, mg_5, mg_6, mg_7, mg_8, mg_9, mg_10, mg_11, mg_12, mg_13, mg_14, mg_15, mg_16, mg_17, mg_18, mg_19, mg_20, mg_21, mg_22, mg_23, mg_24, mg_25, mg_26, mg_27, mg_28, mg_29, mg_30, mg_31, mg_32, mg_33, mg_34, mg_35, mg_36, mg_37, mg_38, ms_0, ms_1, ms_2, ms_13, ms_14, ms_15, ms_16, ms_21, ms_22, ms_23, ms_24, ms_28, ms_36, ms_37, ms_38, st_at, st_ne, st_st, st_swap, p0, p1, p2, t1, h5, b1, -List.filter_filter, -List.getElem?_map, -List.getD_eq_getElem?_getD]
theorem T_149c (d : Nat) (hN : 53 ≤ N) (h : TR w m D R St) (hl : lT lv (o + 1) 0) (e : heZ D (m 4) (m 3) = 44) (o0 : 0 ≤ o) (o9 : o < 400) (f v : Int) (hf : gZ St o = f) (f0 : 0 ≤ f) (f9 : f < 600) (hv : gZ R f = v) (v0 : 100 ≤ v) (v1 : v < 204) (v3 : (v - 100) % 4 ≠ 3) : ∀ res, Gx q_k100 (d + 2) 4 ((4, .int (iZ f)) :: List.filter (x_keep 4) ((2, .int (iZ 1)) :: lv.filter (x_keep 2)), [], hp (uH (uH w 27 (.inr (8, mF (st_ (st_ m 4 (m 4 + 1)) 5 0)))) 38 (cI 0 (sZ R f (v + 1)))) N) res → Gx q_k100 (d + 2) 149 (lv, [], hp w N) res := fun res hg => by
  have X := x96y d hN h e (by omega) (by omega)
  obtain ⟨t1, t2, t3, t4, t5, t6, t7, t8, t9, t10, t11, t12, t13⟩ := h
  obtain ⟨hc, p0, p1, p2⟩ := hl
  have eo : o + 1 - 1 = o := by omega
  have b1 : ¬ (v - 100 - (v - 100) / 4 * 4 = 3) := by omega
  refine Gx.run 120 X (fun C mm => ?_) hg
  simp (disch := first | (refine c1_id ?_; assumption) | (refine c1_st rfl ?_; repeat (first | assumption | refine c1_st rfl ?_)) | omega) [nx_l, nx_r, nx_n, x_st, x_push, x_bin, x_div, x_un, x_dup, x_pop, x_dup2, x_goto, x_ifeq, x_ifne, x_iflt, x_ifge, x_ifgt, x_ifle, x_iceq, x_icne, x_iclt, x_icge, x_icgt, x_icle, x_ifnull, x_ifnonnull, x_ldi, x_lda, x_sti, x_sta, x_iinc, x_gf, x_pf, x_ald, x_ast, x_aln, x_len, x_cl_, x_cv, x_cs, x_rc, x_r0, x_isT, x_oi, x_rv, x_ri, x_ra, Value.category, t100_0, t100_1, t100_2, t100_3, t100_4, t100_5, t100_8, t100_9, t100_12, t100_15, t100_16, t100_19, t100_20, t100_21, t100_23, t100_26, t100_27, t100_29, t100_32, t100_33, t100_34, t100_37, t100_38, t100_39, t100_42, t100_43, t100_44, t100_46, t100_47, t100_50, t100_51, t100_52, t100_55, t100_56, t100_59, t100_62, t100_63, t100_64, t100_67, t100_68, t100_69, t100_72, t100_73, t100_75, t100_76, t100_77, t100_79, t100_80, t100_81, t100_82, t100_85, t100_86, t100_88, t100_91, t100_92, t100_93, t100_96, t100_97, t100_100, t100_101, t100_102, t100_105, t100_106, t100_107, t100_108, t100_111, t100_112, t100_115, t100_116, t100_119, t100_120, t100_121, t100_122, t100_123, t100_124, t100_125, t100_126, t100_129, t100_130, t100_131, t100_134, t100_135, t100_138, t100_139, t100_142, t100_143, t100_146, t100_149, t100_150, t100_152, t100_155, t100_158, t100_159, t100_160, t100_161, t100_164, t100_165, t100_166, t100_167, t100_168, t100_170, t100_171, t100_172, t100_175, t100_177, t100_178, t100_180, t100_181, t100_182, t100_183, t100_184, t100_187, t100_188, t100_191, t100_192, t100_195, t100_196, t100_199, t100_201, t100_202, t100_205, t100_208, t100_209, t100_212, t100_214, t100_215, t100_218, t100_219, t100_222, t100_224, t100_225, t100_226, t100_227, t100_228, t100_231, t100_232, t100_234, t100_237, t100_240, t100_243, t100_246, t100_247, t100_248, t100_251, t100_254, t100_257, lk_s, hp_get, hp_set, uH_at, uH_ne, uH_upd, uH_swap, iZ_add, iZ_sub, iZ_mul, iZ_neg, iZ_lt, iZ_le, iZ_eq, iZ_div, iZ_of, ix_Z, gZ_map, gZ_mapI, gZ_map', le_0, le_s, sZ_map, sZ_len, bZ_0, bZ_inj, bZ_t, bZ_f, nr_i, nr_0, nr_1, nr_b, ft_i, ft_b, ft_0, ft_1, zl_0, zl_1, zl_3, zl_4, zl_40, zl_41, zl_44, zl_65, zl_90, zl_97, zl_100, mF_len, mg_0, mg_1, mg_2, mg_3, mg_4, mg_5, mg_6, mg_7, mg_8, mg_9, mg_10, mg_11, mg_12, mg_13, mg_14, mg_15, mg_16, mg_17, mg_18, mg_19, mg_20, mg_21, mg_22, mg_23, mg_24, mg_25, mg_26, mg_27, mg_28, mg_29, mg_30, mg_31, mg_32, mg_33, mg_34, mg_35, mg_36, mg_37, mg_38, ms_0, ms_1, ms_2, ms_13, ms_14, ms_15, ms_16, ms_21, ms_22, ms_23, ms_24, ms_28, ms_36, ms_37, ms_38, st_at, st_ne, st_st, st_swap, p0, p1, p2, t1, mm, t4, t6, eo, hf, hv, b1, -List.filter_filter, -List.getElem?_map, -List.getD_eq_getElem?_getD]
theorem T_149x (d : Nat) (hN : 53 ≤ N) (h : TR w m D R St) (hl : lT lv (o + 1) 0) (e : heZ D (m 4) (m 3) = 44) (o0 : 0 ≤ o) (o9 : o < 400) (f v : Int) (hf : gZ St o = f) (f0 : 0 ≤ f) (f9 : f < 600) (hv : gZ R f = v) (v0 : 100 ≤ v) (v1 : v < 204) (v3 : (v - 100) % 4 = 3) : Gx q_k100 (d + 2) 149 (lv, [], hp w N) (none, hp (uH (uH w 27 (.inr (8, mF (st_ (st_ m 4 (m 4 + 1)) 5 1)))) 38 (cI 0 (sZ R f v))) N) := by
  have X := x96y d hN h e (by omega) (by omega)
  obtain ⟨t1, t2, t3, t4, t5, t6, t7, t8, t9, t10, t11, t12, t13⟩ := h
  obtain ⟨hc, p0, p1, p2⟩ := hl
  have eo : o + 1 - 1 = o := by omega
  have b1 := eq_true (show v - 100 - (v - 100) / 4 * 4 = 3 by omega)
  refine Gx.fin 120 X (fun C mm => ?_)
  simp (disch := first | (refine c1_id ?_; assumption) | (refine c1_st rfl ?_; repeat (first | assumption | refine c1_st rfl ?_)) | omega) [nx_l, nx_r, nx_n, x_st, x_push, x_bin, x_div, x_un, x_dup, x_pop, x_dup2, x_goto, x_ifeq, x_ifne, x_iflt, x_ifge, x_ifgt, x_ifle, x_iceq, x_icne, x_iclt, x_icge, x_icgt, x_icle, x_ifnull, x_ifnonnull, x_ldi, x_lda, x_sti, x_sta, x_iinc, x_gf, x_pf, x_ald, x_ast, x_aln, x_len, x_cl_, x_cv, x_cs, x_rc, x_r0, x_isT, x_oi, x_rv, x_ri, x_ra, Value.category, t100_0, t100_1, t100_2, t100_3, t100_4, t100_5, t100_8, t100_9, t100_12, t100_15, t100_16, t100_19, t100_20, t100_21, t100_23, t100_26, t100_27, t100_29, t100_32, t100_33, t100_34, t100_37, t100_38, t100_39, t100_42, t100_43, t100_44, t100_46, t100_47, t100_50, t100_51, t100_52, t100_55, t100_56, t100_59, t100_62, t100_63, t100_64, t100_67, t100_68, t100_69, t100_72, t100_73, t100_75, t100_76, t100_77, t100_79, t100_80, t100_81, t100_82, t100_85, t100_86, t100_88, t100_91, t100_92, t100_93, t100_96, t100_97, t100_100, t100_101, t100_102, t100_105, t100_106, t100_107, t100_108, t100_111, t100_112, t100_115, t100_116, t100_119, t100_120, t100_121, t100_122, t100_123, t100_124, t100_125, t100_126, t100_129, t100_130, t100_131, t100_134, t100_135, t100_138, t100_139, t100_142, t100_143, t100_146, t100_149, t100_150, t100_152, t100_155, t100_158, t100_159, t100_160, t100_161, t100_164, t100_165, t100_166, t100_167, t100_168, t100_170, t100_171, t100_172, t100_175, t100_177, t100_178, t100_180, t100_181, t100_182, t100_183, t100_184, t100_187, t100_188, t100_191, t100_192, t100_195, t100_196, t100_199, t100_201, t100_202, t100_205, t100_208, t100_209, t100_212, t100_214, t100_215, t100_218, t100_219, t100_222, t100_224, t100_225, t100_226, t100_227, t100_228, t100_231, t100_232, t100_234, t100_237, t100_240, t100_243, t100_246, t100_247, t100_248, t100_251, t100_254, t100_257, lk_s, hp_get, hp_set, uH_at, uH_ne, uH_upd, uH_swap, iZ_add, iZ_sub, iZ_mul, iZ_neg, iZ_lt, iZ_le, iZ_eq, iZ_div, iZ_of, ix_Z, gZ_map, gZ_mapI, gZ_map', le_0, le_s, sZ_map, sZ_len, bZ_0, bZ_inj, bZ_t, bZ_f, nr_i, nr_0, nr_1, nr_b, ft_i, ft_b, ft_0, ft_1, zl_0, zl_1, zl_3, zl_4, zl_40, zl_41, zl_44, zl_65, zl_90, zl_97, zl_100, mF_len, mg_0, mg_1, mg_2, mg_3, mg_4, mg_5, mg_6, mg_7, mg_8, mg_9, mg_10, mg_11, mg_12, mg_13, mg_14, mg_15, mg_16, mg_17, mg_18, mg_19, mg_20, mg_21, mg_22, mg_23, mg_24, mg_25, mg_26, mg_27, mg_28, mg_29, mg_30, mg_31, mg_32, mg_33, mg_34, mg_35, mg_36, mg_37, mg_38, ms_0, ms_1, ms_2, ms_13, ms_14, ms_15, ms_16, ms_21, ms_22, ms_23, ms_24, ms_28, ms_36, ms_37, ms_38, st_at, st_ne, st_st, st_swap, p0, p1, p2, t1, mm, t4, t6, eo, hf, hv, b1, -List.filter_filter, -List.getElem?_map, -List.getD_eq_getElem?_getD]
theorem T_149p (d : Nat) (hN : 53 ≤ N) (h : TR w m D R St) (hl : lT lv (o + 1) 0) (e : heZ D (m 4) (m 3) = 41) (o0 : 0 ≤ o) (o9 : o < 400) : ∀ res, Gx q_k100 (d + 2) 134 ((1, .int (iZ o)) :: lv.filter (x_keep 1), [], hp (uH w 27 (.inr (8, mF (st_ m 4 (m 4 + 1))))) N) res → Gx q_k100 (d + 2) 149 (lv, [], hp w N) res := fun res hg => by
  have X := x96y d hN h e (by omega) (by omega)
  have Y := x96n (c := 44) d hN h (by omega) (by omega) (by omega)
  obtain ⟨hc, p0, p1, p2⟩ := hl
  have eo : o + 1 + -1 = o := by omega
  have t1 := h.1
  refine Gx.run 40 (X.and Y) (fun C mm => ?_) hg
  obtain ⟨mm1, mm2⟩ := mm
  simp (disch := first | (refine c1_id ?_; assumption) | (refine c1_st rfl ?_; repeat (first | assumption | refine c1_st rfl ?_)) | omega) [nx_l, nx_r, nx_n, x_st, x_push, x_bin, x_div, x_un, x_dup, x_pop, x_dup2, x_goto, x_ifeq, x_ifne, x_iflt, x_ifge, x_ifgt, x_ifle, x_iceq, x_icne, x_iclt, x_icge, x_icgt, x_icle, x_ifnull, x_ifnonnull, x_ldi, x_lda, x_sti, x_sta, x_iinc, x_gf, x_pf, x_ald, x_ast, x_aln, x_len, x_cl_, x_cv, x_cs, x_rc, x_r0, x_isT, x_oi, x_rv, x_ri, x_ra, Value.category, t100_0, t100_1, t100_2, t100_3, t100_4, t100_5, t100_8, t100_9, t100_12, t100_15, t100_16, t100_19, t100_20, t100_21, t100_23, t100_26, t100_27, t100_29, t100_32, t100_33, t100_34, t100_37, t100_38, t100_39, t100_42, t100_43, t100_44, t100_46, t100_47, t100_50, t100_51, t100_52, t100_55, t100_56, t100_59, t100_62, t100_63, t100_64, t100_67, t100_68, t100_69, t100_72, t100_73, t100_75, t100_76, t100_77, t100_79, t100_80, t100_81, t100_82, t100_85, t100_86, t100_88, t100_91, t100_92, t100_93, t100_96, t100_97, t100_100, t100_101, t100_102, t100_105, t100_106, t100_107, t100_108, t100_111, t100_112, t100_115, t100_116, t100_119, t100_120, t100_121, t100_122, t100_123, t100_124, t100_125, t100_126, t100_129, t100_130, t100_131, t100_134, t100_135, t100_138, t100_139, t100_142, t100_143, t100_146, t100_149, t100_150, t100_152, t100_155, t100_158, t100_159, t100_160, t100_161, t100_164, t100_165, t100_166, t100_167, t100_168, t100_170, t100_171, t100_172, t100_175, t100_177, t100_178, t100_180, t100_181, t100_182, t100_183, t100_184, t100_187, t100_188, t100_191, t100_192, t100_195, t100_196, t100_199, t100_201, t100_202, t100_205, t100_208, t100_209, t100_212, t100_214, t100_215, t100_218, t100_219, t100_222, t100_224, t100_225, t100_226, t100_227, t100_228, t100_231, t100_232, t100_234, t100_237, t100_240, t100_243, t100_246, t100_247, t100_248, t100_251, t100_254, t100_257, lk_s, hp_get, hp_set, uH_at, uH_ne, uH_upd, uH_swap, iZ_add, iZ_sub, iZ_mul, iZ_neg, iZ_lt, iZ_le, iZ_eq, iZ_div, iZ_of, ix_Z, gZ_map, gZ_mapI, gZ_map', le_0, le_s, sZ_map, sZ_len, bZ_0, bZ_inj, bZ_t, bZ_f, nr_i, nr_0, nr_1, nr_b, ft_i, ft_b, ft_0, ft_1, zl_0, zl_1, zl_3, zl_4, zl_40, zl_41, zl_44, zl_65, zl_90, zl_97, zl_100, mF_len, mg_0, mg_1, mg_2, mg_3, mg_4, mg_5, mg_6, mg_7, mg_8, mg_9, mg_10, mg_11, mg_12, mg_13, mg_14, mg_15, mg_16, mg_17, mg_18, mg_19, mg_20, mg_21, mg_22, mg_23, mg_24, mg_25, mg_26, mg_27, mg_28, mg_29, mg_30, mg_31, mg_32, mg_33, mg_34, mg_35, mg_36, mg_37, mg_38, ms_0, ms_1, ms_2, ms_13, ms_14, ms_15, ms_16, ms_21, ms_22, ms_23, ms_24, ms_28, ms_36, ms_37, ms_38, st_at, st_ne, st_st, st_swap, p0, p1, p2, t1, mm1, mm2, eo, -List.filter_filter, -List.getElem?_map, -List.getD_eq_getElem?_getD]
theorem T_149b (d : Nat) (hN : 53 ≤ N) (h : TR w m D R St) (hl : lT lv (o + 1) 0) (e1 : heZ D (m 4) (m 3) ≠ 44) (e2 : heZ D (m 4) (m 3) ≠ 41) (o0 : 0 ≤ o) (o9 : o < 400) : Gx q_k100 (d + 2) 149 (lv, [], hp w N) (none, hp (uH w 27 (.inr (8, mF (st_ m 5 1)))) N) := by
  have X := x96n (c := 41) d hN h e2 (by omega) (by omega)
  have Y := x96n (c := 44) d hN h e1 (by omega) (by omega)
  obtain ⟨t1, t2, t3, t4, t5, t6, t7, t8, t9, t10, t11, t12, t13⟩ := h
  obtain ⟨hc, p0, p1, p2⟩ := hl
  have b1 : ¬ o + 1 ≤ 0 := by omega
  refine Gx.fin 60 (X.and Y) (fun C mm => ?_)
  obtain ⟨mm1, mm2⟩ := mm
  simp (disch := first | (refine c1_id ?_; assumption) | (refine c1_st rfl ?_; repeat (first | assumption | refine c1_st rfl ?_)) | omega) [nx_l, nx_r, nx_n, x_st, x_push, x_bin, x_div, x_un, x_dup, x_pop, x_dup2, x_goto, x_ifeq, x_ifne, x_iflt, x_ifge, x_ifgt, x_ifle, x_iceq, x_icne, x_iclt, x_icge, x_icgt, x_icle, x_ifnull, x_ifnonnull, x_ldi, x_lda, x_sti, x_sta, x_iinc, x_gf, x_pf, x_ald, x_ast, x_aln, x_len, x_cl_, x_cv, x_cs, x_rc, x_r0, x_isT, x_oi, x_rv, x_ri, x_ra, Value.category, t100_0, t100_1, t100_2, t100_3, t100_4, t100_5, t100_8, t100_9, t100_12, t100_15, t100_16, t100_19, t100_20, t100_21, t100_23, t100_26, t100_27, t100_29, t100_32, t100_33, t100_34, t100_37, t100_38, t100_39, t100_42, t100_43, t100_44, t100_46, t100_47, t100_50, t100_51, t100_52, t100_55, t100_56, t100_59, t100_62, t100_63, t100_64, t100_67, t100_68, t100_69, t100_72, t100_73, t100_75, t100_76, t100_77, t100_79, t100_80, t100_81, t100_82, t100_85, t100_86, t100_88, t100_91, t100_92, t100_93, t100_96, t100_97, t100_100, t100_101, t100_102, t100_105, t100_106, t100_107, t100_108, t100_111, t100_112, t100_115, t100_116, t100_119, t100_120, t100_121, t100_122, t100_123, t100_124, t100_125, t100_126, t100_129, t100_130, t100_131, t100_134, t100_135, t100_138, t100_139, t100_142, t100_143, t100_146, t100_149, t100_150, t100_152, t100_155, t100_158, t100_159, t100_160, t100_161, t100_164, t100_165, t100_166, t100_167, t100_168, t100_170, t100_171, t100_172, t100_175, t100_177, t100_178, t100_180, t100_181, t100_182, t100_183, t100_184, t100_187, t100_188, t100_191, t100_192, t100_195, t100_196, t100_199, t100_201, t100_202, t100_205, t100_208, t100_209, t100_212, t100_214, t100_215, t100_218, t100_219, t100_222, t100_224, t100_225, t100_226, t100_227, t100_228, t100_231, t100_232, t100_234, t100_237, t100_240, t100_243, t100_246, t100_247, t100_248, t100_251, t100_254, t100_257, lk_s, hp_get, hp_set, uH_at, uH_ne, uH_upd, uH_swap, iZ_add, iZ_sub, iZ_mul, iZ_neg, iZ_lt, iZ_le, iZ_eq, iZ_div, iZ_of, ix_Z, gZ_map, gZ_mapI, gZ_map', le_0, le_s, sZ_map, sZ_len, bZ_0, bZ_inj, bZ_t, bZ_f, nr_i, nr_0, nr_1, nr_b, ft_i, ft_b, ft_0, ft_1, zl_0, zl_1, zl_3, zl_4, zl_40, zl_41, zl_44, zl_65, zl_90, zl_97, zl_100, mF_len, mg_0, mg_1, mg_2, mg_3, mg_4, mg_5, mg_6, mg_7, mg_8, mg_9, mg_10, mg_11, mg_12, mg_13, mg_14, mg_15, mg_16, mg_17, mg_18, mg_19, mg_20, mg_21, mg_22, mg_23, mg_24, mg_25, mg_26, mg_27, mg_28, mg_29, mg_30, mg_31, mg_32, mg_33, mg_34, mg_35, mg_36, mg_37, mg_38, ms_0, ms_1, ms_2, ms_13, ms_14, ms_15, ms_16, ms_21, ms_22, ms_23, ms_24, ms_28, ms_36, ms_37, ms_38, st_at, st_ne, st_st, st_swap, p0, p1, p2, mm1, mm2, t1, b1, -List.filter_filter, -List.getElem?_map, -List.getD_eq_getElem?_getD]
end TE
