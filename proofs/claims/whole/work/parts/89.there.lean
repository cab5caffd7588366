/-! the reference: is it there -/
theorem f120_0 : x_fetch q_k120 0 = x_ldi 1 1 := rfl
theorem t120_0 (C : xF) (s n : Nat) (z : xS) : x_to q_k120 C s (n + 1) 0 z = x_nx q_k120 C s n ((x_ldi 1 1) C z) := x_to_at f120_0 C s n z
theorem f120_1 : x_fetch q_k120 1 = x_st (x_iflt 21 4) := rfl
theorem t120_1 (C : xF) (s n : Nat) (z : xS) : x_to q_k120 C s (n + 1) 1 z = x_nx q_k120 C s n ((x_st (x_iflt 21 4)) C z) := x_to_at f120_1 C s n z
theorem f120_4 : x_fetch q_k120 4 = x_ldi 5 1 := rfl
theorem t120_4 (C : xF) (s n : Nat) (z : xS) : x_to q_k120 C s (n + 1) 4 z = x_nx q_k120 C s n ((x_ldi 5 1) C z) := x_to_at f120_4 C s n z
theorem f120_5 : x_fetch q_k120 5 = x_st (x_push 6 (.int (4))) := rfl
theorem t120_5 (C : xF) (s n : Nat) (z : xS) : x_to q_k120 C s (n + 1) 5 z = x_nx q_k120 C s n ((x_st (x_push 6 (.int (4)))) C z) := x_to_at f120_5 C s n z
theorem f120_6 : x_fetch q_k120 6 = x_st (x_icgt 21 9) := rfl
theorem t120_6 (C : xF) (s n : Nat) (z : xS) : x_to q_k120 C s (n + 1) 6 z = x_nx q_k120 C s n ((x_st (x_icgt 21 9)) C z) := x_to_at f120_6 C s n z
theorem f120_9 : x_fetch q_k120 9 = x_ldi 10 2 := rfl
theorem t120_9 (C : xF) (s n : Nat) (z : xS) : x_to q_k120 C s (n + 1) 9 z = x_nx q_k120 C s n ((x_ldi 10 2) C z) := x_to_at f120_9 C s n z
theorem f120_10 : x_fetch q_k120 10 = x_st (x_iflt 21 13) := rfl
theorem t120_10 (C : xF) (s n : Nat) (z : xS) : x_to q_k120 C s (n + 1) 10 z = x_nx q_k120 C s n ((x_st (x_iflt 21 13)) C z) := x_to_at f120_10 C s n z
theorem f120_13 : x_fetch q_k120 13 = x_ldi 14 2 := rfl
theorem t120_13 (C : xF) (s n : Nat) (z : xS) : x_to q_k120 C s (n + 1) 13 z = x_nx q_k120 C s n ((x_ldi 14 2) C z) := x_to_at f120_13 C s n z
theorem f120_14 : x_fetch q_k120 14 = x_lda 15 0 := rfl
theorem t120_14 (C : xF) (s n : Nat) (z : xS) : x_to q_k120 C s (n + 1) 14 z = x_nx q_k120 C s n ((x_lda 15 0) C z) := x_to_at f120_14 C s n z
theorem f120_15 : x_fetch q_k120 15 = x_gf 18 8 2 := rfl
theorem t120_15 (C : xF) (s n : Nat) (z : xS) : x_to q_k120 C s (n + 1) 15 z = x_nx q_k120 C s n ((x_gf 18 8 2) C z) := x_to_at f120_15 C s n z
theorem f120_18 : x_fetch q_k120 18 = x_st (x_iclt 23 21) := rfl
theorem t120_18 (C : xF) (s n : Nat) (z : xS) : x_to q_k120 C s (n + 1) 18 z = x_nx q_k120 C s n ((x_st (x_iclt 23 21)) C z) := x_to_at f120_18 C s n z
theorem f120_21 : x_fetch q_k120 21 = x_st (x_push 22 (.int (0))) := rfl
theorem t120_21 (C : xF) (s n : Nat) (z : xS) : x_to q_k120 C s (n + 1) 21 z = x_nx q_k120 C s n ((x_st (x_push 22 (.int (0)))) C z) := x_to_at f120_21 C s n z
theorem f120_22 : x_fetch q_k120 22 = x_ri (.boolean) := rfl
theorem t120_22 (C : xF) (s n : Nat) (z : xS) : x_to q_k120 C s (n + 1) 22 z = x_nx q_k120 C s n ((x_ri (.boolean)) C z) := x_to_at f120_22 C s n z
theorem f120_23 : x_fetch q_k120 23 = x_ldi 24 1 := rfl
theorem t120_23 (C : xF) (s n : Nat) (z : xS) : x_to q_k120 C s (n + 1) 23 z = x_nx q_k120 C s n ((x_ldi 24 1) C z) := x_to_at f120_23 C s n z
theorem f120_24 : x_fetch q_k120 24 = x_st (x_push 25 (.int (4))) := rfl
theorem t120_24 (C : xF) (s n : Nat) (z : xS) : x_to q_k120 C s (n + 1) 24 z = x_nx q_k120 C s n ((x_st (x_push 25 (.int (4)))) C z) := x_to_at f120_24 C s n z
theorem f120_25 : x_fetch q_k120 25 = x_st (x_icne 41 28) := rfl
theorem t120_25 (C : xF) (s n : Nat) (z : xS) : x_to q_k120 C s (n + 1) 25 z = x_nx q_k120 C s n ((x_st (x_icne 41 28)) C z) := x_to_at f120_25 C s n z
theorem f120_28 : x_fetch q_k120 28 = x_lda 29 0 := rfl
theorem t120_28 (C : xF) (s n : Nat) (z : xS) : x_to q_k120 C s (n + 1) 28 z = x_nx q_k120 C s n ((x_lda 29 0) C z) := x_to_at f120_28 C s n z
theorem f120_29 : x_fetch q_k120 29 = x_gf 32 8 13 := rfl
theorem t120_29 (C : xF) (s n : Nat) (z : xS) : x_to q_k120 C s (n + 1) 29 z = x_nx q_k120 C s n ((x_gf 32 8 13) C z) := x_to_at f120_29 C s n z
theorem f120_32 : x_fetch q_k120 32 = x_st (x_ifle 39 35) := rfl
theorem t120_32 (C : xF) (s n : Nat) (z : xS) : x_to q_k120 C s (n + 1) 32 z = x_nx q_k120 C s n ((x_st (x_ifle 39 35)) C z) := x_to_at f120_32 C s n z
theorem f120_35 : x_fetch q_k120 35 = x_st (x_push 36 (.int (1))) := rfl
theorem t120_35 (C : xF) (s n : Nat) (z : xS) : x_to q_k120 C s (n + 1) 35 z = x_nx q_k120 C s n ((x_st (x_push 36 (.int (1)))) C z) := x_to_at f120_35 C s n z
theorem f120_36 : x_fetch q_k120 36 = x_st (x_goto 40) := rfl
theorem t120_36 (C : xF) (s n : Nat) (z : xS) : x_to q_k120 C s (n + 1) 36 z = x_nx q_k120 C s n ((x_st (x_goto 40)) C z) := x_to_at f120_36 C s n z
theorem f120_39 : x_fetch q_k120 39 = x_st (x_push 40 (.int (0))) := rfl
theorem t120_39 (C : xF) (s n : Nat) (z : xS) : x_to q_k120 C s (n + 1) 39 z = x_nx q_k120 C s n ((x_st (x_push 40 (.int (0)))) C z) := x_to_at f120_39 C s n z
theorem f120_40 : x_fetch q_k120 40 = x_ri (.boolean) := rfl
theorem t120_40 (C : xF) (s n : Nat) (z : xS) : x_to q_k120 C s (n + 1) 40 z = x_nx q_k120 C s n ((x_ri (.boolean)) C z) := x_to_at f120_40 C s n z
theorem f120_41 : x_fetch q_k120 41 = x_lda 42 0 := rfl
theorem t120_41 (C : xF) (s n : Nat) (z : xS) : x_to q_k120 C s (n + 1) 41 z = x_nx q_k120 C s n ((x_lda 42 0) C z) := x_to_at f120_41 C s n z
theorem f120_42 : x_fetch q_k120 42 = x_ldi 43 2 := rfl
theorem t120_42 (C : xF) (s n : Nat) (z : xS) : x_to q_k120 C s (n + 1) 42 z = x_nx q_k120 C s n ((x_ldi 43 2) C z) := x_to_at f120_42 C s n z
theorem f120_43 : x_fetch q_k120 43 = x_ldi 44 3 := rfl
theorem t120_43 (C : xF) (s n : Nat) (z : xS) : x_to q_k120 C s (n + 1) 43 z = x_nx q_k120 C s n ((x_ldi 44 3) C z) := x_to_at f120_43 C s n z
theorem f120_44 : x_fetch q_k120 44 = x_cv 47 119 3 8 := rfl
theorem t120_44 (C : xF) (s n : Nat) (z : xS) : x_to q_k120 C s (n + 1) 44 z = x_nx q_k120 C s n ((x_cv 47 119 3 8) C z) := x_to_at f120_44 C s n z
theorem f120_47 : x_fetch q_k120 47 = x_st (x_ifne 52 50) := rfl
theorem t120_47 (C : xF) (s n : Nat) (z : xS) : x_to q_k120 C s (n + 1) 47 z = x_nx q_k120 C s n ((x_st (x_ifne 52 50)) C z) := x_to_at f120_47 C s n z
theorem f120_50 : x_fetch q_k120 50 = x_st (x_push 51 (.int (0))) := rfl
theorem t120_50 (C : xF) (s n : Nat) (z : xS) : x_to q_k120 C s (n + 1) 50 z = x_nx q_k120 C s n ((x_st (x_push 51 (.int (0)))) C z) := x_to_at f120_50 C s n z
theorem f120_51 : x_fetch q_k120 51 = x_ri (.boolean) := rfl
theorem t120_51 (C : xF) (s n : Nat) (z : xS) : x_to q_k120 C s (n + 1) 51 z = x_nx q_k120 C s n ((x_ri (.boolean)) C z) := x_to_at f120_51 C s n z
theorem f120_52 : x_fetch q_k120 52 = x_ldi 53 1 := rfl
theorem t120_52 (C : xF) (s n : Nat) (z : xS) : x_to q_k120 C s (n + 1) 52 z = x_nx q_k120 C s n ((x_ldi 53 1) C z) := x_to_at f120_52 C s n z
theorem f120_53 : x_fetch q_k120 53 = x_st (x_push 54 (.int (1))) := rfl
theorem t120_53 (C : xF) (s n : Nat) (z : xS) : x_to q_k120 C s (n + 1) 53 z = x_nx q_k120 C s n ((x_st (x_push 54 (.int (1)))) C z) := x_to_at f120_53 C s n z
theorem f120_54 : x_fetch q_k120 54 = x_st (x_icne 65 57) := rfl
theorem t120_54 (C : xF) (s n : Nat) (z : xS) : x_to q_k120 C s (n + 1) 54 z = x_nx q_k120 C s n ((x_st (x_icne 65 57)) C z) := x_to_at f120_54 C s n z
theorem f120_57 : x_fetch q_k120 57 = x_lda 58 0 := rfl
theorem t120_57 (C : xF) (s n : Nat) (z : xS) : x_to q_k120 C s (n + 1) 57 z = x_nx q_k120 C s n ((x_lda 58 0) C z) := x_to_at f120_57 C s n z
theorem f120_58 : x_fetch q_k120 58 = x_ldi 59 2 := rfl
theorem t120_58 (C : xF) (s n : Nat) (z : xS) : x_to q_k120 C s (n + 1) 58 z = x_nx q_k120 C s n ((x_ldi 59 2) C z) := x_to_at f120_58 C s n z
theorem f120_59 : x_fetch q_k120 59 = x_ldi 61 5 := rfl
theorem t120_59 (C : xF) (s n : Nat) (z : xS) : x_to q_k120 C s (n + 1) 59 z = x_nx q_k120 C s n ((x_ldi 61 5) C z) := x_to_at f120_59 C s n z
theorem f120_61 : x_fetch q_k120 61 = x_cv 64 119 3 8 := rfl
theorem t120_61 (C : xF) (s n : Nat) (z : xS) : x_to q_k120 C s (n + 1) 61 z = x_nx q_k120 C s n ((x_cv 64 119 3 8) C z) := x_to_at f120_61 C s n z
theorem f120_64 : x_fetch q_k120 64 = x_ri (.boolean) := rfl
theorem t120_64 (C : xF) (s n : Nat) (z : xS) : x_to q_k120 C s (n + 1) 64 z = x_nx q_k120 C s n ((x_ri (.boolean)) C z) := x_to_at f120_64 C s n z
theorem f120_65 : x_fetch q_k120 65 = x_ldi 66 1 := rfl
theorem t120_65 (C : xF) (s n : Nat) (z : xS) : x_to q_k120 C s (n + 1) 65 z = x_nx q_k120 C s n ((x_ldi 66 1) C z) := x_to_at f120_65 C s n z
theorem f120_66 : x_fetch q_k120 66 = x_st (x_push 67 (.int (2))) := rfl
theorem t120_66 (C : xF) (s n : Nat) (z : xS) : x_to q_k120 C s (n + 1) 66 z = x_nx q_k120 C s n ((x_st (x_push 67 (.int (2)))) C z) := x_to_at f120_66 C s n z
theorem f120_67 : x_fetch q_k120 67 = x_st (x_icne 72 70) := rfl
theorem t120_67 (C : xF) (s n : Nat) (z : xS) : x_to q_k120 C s (n + 1) 67 z = x_nx q_k120 C s n ((x_st (x_icne 72 70)) C z) := x_to_at f120_67 C s n z
theorem f120_70 : x_fetch q_k120 70 = x_st (x_push 71 (.int (1))) := rfl
theorem t120_70 (C : xF) (s n : Nat) (z : xS) : x_to q_k120 C s (n + 1) 70 z = x_nx q_k120 C s n ((x_st (x_push 71 (.int (1)))) C z) := x_to_at f120_70 C s n z
theorem f120_71 : x_fetch q_k120 71 = x_ri (.boolean) := rfl
theorem t120_71 (C : xF) (s n : Nat) (z : xS) : x_to q_k120 C s (n + 1) 71 z = x_nx q_k120 C s n ((x_ri (.boolean)) C z) := x_to_at f120_71 C s n z
theorem f120_72 : x_fetch q_k120 72 = x_ldi 74 4 := rfl
theorem t120_72 (C : xF) (s n : Nat) (z : xS) : x_to q_k120 C s (n + 1) 72 z = x_nx q_k120 C s n ((x_ldi 74 4) C z) := x_to_at f120_72 C s n z
theorem f120_74 : x_fetch q_k120 74 = x_st (x_iflt 97 77) := rfl
theorem t120_74 (C : xF) (s n : Nat) (z : xS) : x_to q_k120 C s (n + 1) 74 z = x_nx q_k120 C s n ((x_st (x_iflt 97 77)) C z) := x_to_at f120_74 C s n z
theorem f120_77 : x_fetch q_k120 77 = x_ldi 79 4 := rfl
theorem t120_77 (C : xF) (s n : Nat) (z : xS) : x_to q_k120 C s (n + 1) 77 z = x_nx q_k120 C s n ((x_ldi 79 4) C z) := x_to_at f120_77 C s n z
theorem f120_79 : x_fetch q_k120 79 = x_lda 80 0 := rfl
theorem t120_79 (C : xF) (s n : Nat) (z : xS) : x_to q_k120 C s (n + 1) 79 z = x_nx q_k120 C s n ((x_lda 80 0) C z) := x_to_at f120_79 C s n z
theorem f120_80 : x_fetch q_k120 80 = x_gf 83 8 2 := rfl
theorem t120_80 (C : xF) (s n : Nat) (z : xS) : x_to q_k120 C s (n + 1) 80 z = x_nx q_k120 C s n ((x_gf 83 8 2) C z) := x_to_at f120_80 C s n z
theorem f120_83 : x_fetch q_k120 83 = x_st (x_icge 97 86) := rfl
theorem t120_83 (C : xF) (s n : Nat) (z : xS) : x_to q_k120 C s (n + 1) 83 z = x_nx q_k120 C s n ((x_st (x_icge 97 86)) C z) := x_to_at f120_83 C s n z
theorem f120_86 : x_fetch q_k120 86 = x_lda 87 0 := rfl
theorem t120_86 (C : xF) (s n : Nat) (z : xS) : x_to q_k120 C s (n + 1) 86 z = x_nx q_k120 C s n ((x_lda 87 0) C z) := x_to_at f120_86 C s n z
theorem f120_87 : x_fetch q_k120 87 = x_ldi 89 4 := rfl
theorem t120_87 (C : xF) (s n : Nat) (z : xS) : x_to q_k120 C s (n + 1) 87 z = x_nx q_k120 C s n ((x_ldi 89 4) C z) := x_to_at f120_87 C s n z
theorem f120_89 : x_fetch q_k120 89 = x_ldi 91 5 := rfl
theorem t120_89 (C : xF) (s n : Nat) (z : xS) : x_to q_k120 C s (n + 1) 89 z = x_nx q_k120 C s n ((x_ldi 91 5) C z) := x_to_at f120_89 C s n z
theorem f120_91 : x_fetch q_k120 91 = x_cv 94 119 3 8 := rfl
theorem t120_91 (C : xF) (s n : Nat) (z : xS) : x_to q_k120 C s (n + 1) 91 z = x_nx q_k120 C s n ((x_cv 94 119 3 8) C z) := x_to_at f120_91 C s n z
theorem f120_94 : x_fetch q_k120 94 = x_st (x_ifne 99 97) := rfl
theorem t120_94 (C : xF) (s n : Nat) (z : xS) : x_to q_k120 C s (n + 1) 94 z = x_nx q_k120 C s n ((x_st (x_ifne 99 97)) C z) := x_to_at f120_94 C s n z
theorem f120_97 : x_fetch q_k120 97 = x_st (x_push 98 (.int (0))) := rfl
theorem t120_97 (C : xF) (s n : Nat) (z : xS) : x_to q_k120 C s (n + 1) 97 z = x_nx q_k120 C s n ((x_st (x_push 98 (.int (0)))) C z) := x_to_at f120_97 C s n z
theorem f120_98 : x_fetch q_k120 98 = x_ri (.boolean) := rfl
theorem t120_98 (C : xF) (s n : Nat) (z : xS) : x_to q_k120 C s (n + 1) 98 z = x_nx q_k120 C s n ((x_ri (.boolean)) C z) := x_to_at f120_98 C s n z
theorem f120_99 : x_fetch q_k120 99 = x_ldi 100 1 := rfl
theorem t120_99 (C : xF) (s n : Nat) (z : xS) : x_to q_k120 C s (n + 1) 99 z = x_nx q_k120 C s n ((x_ldi 100 1) C z) := x_to_at f120_99 C s n z
theorem f120_100 : x_fetch q_k120 100 = x_st (x_ifne 105 103) := rfl
theorem t120_100 (C : xF) (s n : Nat) (z : xS) : x_to q_k120 C s (n + 1) 100 z = x_nx q_k120 C s n ((x_st (x_ifne 105 103)) C z) := x_to_at f120_100 C s n z
theorem f120_103 : x_fetch q_k120 103 = x_st (x_push 104 (.int (1))) := rfl
theorem t120_103 (C : xF) (s n : Nat) (z : xS) : x_to q_k120 C s (n + 1) 103 z = x_nx q_k120 C s n ((x_st (x_push 104 (.int (1)))) C z) := x_to_at f120_103 C s n z
theorem f120_104 : x_fetch q_k120 104 = x_ri (.boolean) := rfl
theorem t120_104 (C : xF) (s n : Nat) (z : xS) : x_to q_k120 C s (n + 1) 104 z = x_nx q_k120 C s n ((x_ri (.boolean)) C z) := x_to_at f120_104 C s n z
theorem f120_105 : x_fetch q_k120 105 = x_lda 106 0 := rfl
theorem t120_105 (C : xF) (s n : Nat) (z : xS) : x_to q_k120 C s (n + 1) 105 z = x_nx q_k120 C s n ((x_lda 106 0) C z) := x_to_at f120_105 C s n z
theorem f120_106 : x_fetch q_k120 106 = x_ldi 108 4 := rfl
theorem t120_106 (C : xF) (s n : Nat) (z : xS) : x_to q_k120 C s (n + 1) 106 z = x_nx q_k120 C s n ((x_ldi 108 4) C z) := x_to_at f120_106 C s n z
theorem f120_108 : x_fetch q_k120 108 = x_st (x_push 110 (.int (44))) := rfl
theorem t120_108 (C : xF) (s n : Nat) (z : xS) : x_to q_k120 C s (n + 1) 108 z = x_nx q_k120 C s n ((x_st (x_push 110 (.int (44)))) C z) := x_to_at f120_108 C s n z
theorem f120_110 : x_fetch q_k120 110 = x_st (x_push 112 (.int (26))) := rfl
theorem t120_110 (C : xF) (s n : Nat) (z : xS) : x_to q_k120 C s (n + 1) 110 z = x_nx q_k120 C s n ((x_st (x_push 112 (.int (26)))) C z) := x_to_at f120_110 C s n z
theorem f120_112 : x_fetch q_k120 112 = x_cv 115 110 4 8 := rfl
theorem t120_112 (C : xF) (s n : Nat) (z : xS) : x_to q_k120 C s (n + 1) 112 z = x_nx q_k120 C s n ((x_cv 115 110 4 8) C z) := x_to_at f120_112 C s n z
theorem f120_115 : x_fetch q_k120 115 = x_ldi 117 6 := rfl
theorem t120_115 (C : xF) (s n : Nat) (z : xS) : x_to q_k120 C s (n + 1) 115 z = x_nx q_k120 C s n ((x_ldi 117 6) C z) := x_to_at f120_115 C s n z
theorem f120_117 : x_fetch q_k120 117 = x_st (x_iflt 182 120) := rfl
theorem t120_117 (C : xF) (s n : Nat) (z : xS) : x_to q_k120 C s (n + 1) 117 z = x_nx q_k120 C s n ((x_st (x_iflt 182 120)) C z) := x_to_at f120_117 C s n z
theorem f120_120 : x_fetch q_k120 120 = x_lda 121 0 := rfl
theorem t120_120 (C : xF) (s n : Nat) (z : xS) : x_to q_k120 C s (n + 1) 120 z = x_nx q_k120 C s n ((x_lda 121 0) C z) := x_to_at f120_120 C s n z
theorem f120_121 : x_fetch q_k120 121 = x_st (x_push 123 (.int (44))) := rfl
theorem t120_121 (C : xF) (s n : Nat) (z : xS) : x_to q_k120 C s (n + 1) 121 z = x_nx q_k120 C s n ((x_st (x_push 123 (.int (44)))) C z) := x_to_at f120_121 C s n z
theorem f120_123 : x_fetch q_k120 123 = x_lda 124 0 := rfl
theorem t120_123 (C : xF) (s n : Nat) (z : xS) : x_to q_k120 C s (n + 1) 123 z = x_nx q_k120 C s n ((x_lda 124 0) C z) := x_to_at f120_123 C s n z
theorem f120_124 : x_fetch q_k120 124 = x_gf 127 8 4 := rfl
theorem t120_124 (C : xF) (s n : Nat) (z : xS) : x_to q_k120 C s (n + 1) 124 z = x_nx q_k120 C s n ((x_gf 127 8 4) C z) := x_to_at f120_124 C s n z
theorem f120_127 : x_fetch q_k120 127 = x_st (x_push 129 (.int (7))) := rfl
theorem t120_127 (C : xF) (s n : Nat) (z : xS) : x_to q_k120 C s (n + 1) 127 z = x_nx q_k120 C s n ((x_st (x_push 129 (.int (7)))) C z) := x_to_at f120_127 C s n z
theorem f120_129 : x_fetch q_k120 129 = x_ldi 131 4 := rfl
theorem t120_129 (C : xF) (s n : Nat) (z : xS) : x_to q_k120 C s (n + 1) 129 z = x_nx q_k120 C s n ((x_ldi 131 4) C z) := x_to_at f120_129 C s n z
theorem f120_131 : x_fetch q_k120 131 = x_st (x_bin 132 (fun a b => a * b)) := rfl
theorem t120_131 (C : xF) (s n : Nat) (z : xS) : x_to q_k120 C s (n + 1) 131 z = x_nx q_k120 C s n ((x_st (x_bin 132 (fun a b => a * b))) C z) := x_to_at f120_131 C s n z
theorem f120_132 : x_fetch q_k120 132 = x_ldi 134 5 := rfl
theorem t120_132 (C : xF) (s n : Nat) (z : xS) : x_to q_k120 C s (n + 1) 132 z = x_nx q_k120 C s n ((x_ldi 134 5) C z) := x_to_at f120_132 C s n z
theorem f120_134 : x_fetch q_k120 134 = x_st (x_bin 135 (fun a b => a + b)) := rfl
theorem t120_134 (C : xF) (s n : Nat) (z : xS) : x_to q_k120 C s (n + 1) 134 z = x_nx q_k120 C s n ((x_st (x_bin 135 (fun a b => a + b))) C z) := x_to_at f120_134 C s n z
theorem f120_135 : x_fetch q_k120 135 = x_ald 136 0 := rfl
theorem t120_135 (C : xF) (s n : Nat) (z : xS) : x_to q_k120 C s (n + 1) 135 z = x_nx q_k120 C s n ((x_ald 136 0) C z) := x_to_at f120_135 C s n z
theorem f120_136 : x_fetch q_k120 136 = x_st (x_bin 137 (fun a b => a + b)) := rfl
theorem t120_136 (C : xF) (s n : Nat) (z : xS) : x_to q_k120 C s (n + 1) 136 z = x_nx q_k120 C s n ((x_st (x_bin 137 (fun a b => a + b))) C z) := x_to_at f120_136 C s n z
theorem f120_137 : x_fetch q_k120 137 = x_st (x_push 139 (.int (44))) := rfl
theorem t120_137 (C : xF) (s n : Nat) (z : xS) : x_to q_k120 C s (n + 1) 137 z = x_nx q_k120 C s n ((x_st (x_push 139 (.int (44)))) C z) := x_to_at f120_137 C s n z
theorem f120_139 : x_fetch q_k120 139 = x_lda 140 0 := rfl
theorem t120_139 (C : xF) (s n : Nat) (z : xS) : x_to q_k120 C s (n + 1) 139 z = x_nx q_k120 C s n ((x_lda 140 0) C z) := x_to_at f120_139 C s n z
theorem f120_140 : x_fetch q_k120 140 = x_gf 143 8 4 := rfl
theorem t120_140 (C : xF) (s n : Nat) (z : xS) : x_to q_k120 C s (n + 1) 140 z = x_nx q_k120 C s n ((x_gf 143 8 4) C z) := x_to_at f120_140 C s n z
theorem f120_143 : x_fetch q_k120 143 = x_st (x_push 145 (.int (7))) := rfl
theorem t120_143 (C : xF) (s n : Nat) (z : xS) : x_to q_k120 C s (n + 1) 143 z = x_nx q_k120 C s n ((x_st (x_push 145 (.int (7)))) C z) := x_to_at f120_143 C s n z
theorem f120_145 : x_fetch q_k120 145 = x_ldi 147 4 := rfl
theorem t120_145 (C : xF) (s n : Nat) (z : xS) : x_to q_k120 C s (n + 1) 145 z = x_nx q_k120 C s n ((x_ldi 147 4) C z) := x_to_at f120_145 C s n z
theorem f120_147 : x_fetch q_k120 147 = x_st (x_bin 148 (fun a b => a * b)) := rfl
theorem t120_147 (C : xF) (s n : Nat) (z : xS) : x_to q_k120 C s (n + 1) 147 z = x_nx q_k120 C s n ((x_st (x_bin 148 (fun a b => a * b))) C z) := x_to_at f120_147 C s n z
theorem f120_148 : x_fetch q_k120 148 = x_ldi 150 5 := rfl
theorem t120_148 (C : xF) (s n : Nat) (z : xS) : x_to q_k120 C s (n + 1) 148 z = x_nx q_k120 C s n ((x_ldi 150 5) C z) := x_to_at f120_148 C s n z
theorem f120_150 : x_fetch q_k120 150 = x_st (x_bin 151 (fun a b => a + b)) := rfl
theorem t120_150 (C : xF) (s n : Nat) (z : xS) : x_to q_k120 C s (n + 1) 150 z = x_nx q_k120 C s n ((x_st (x_bin 151 (fun a b => a + b))) C z) := x_to_at f120_150 C s n z
theorem f120_151 : x_fetch q_k120 151 = x_st (x_push 152 (.int (1))) := rfl
theorem t120_151 (C : xF) (s n : Nat) (z : xS) : x_to q_k120 C s (n + 1) 151 z = x_nx q_k120 C s n ((x_st (x_push 152 (.int (1)))) C z) := x_to_at f120_151 C s n z
theorem f120_152 : x_fetch q_k120 152 = x_st (x_bin 153 (fun a b => a + b)) := rfl
theorem t120_152 (C : xF) (s n : Nat) (z : xS) : x_to q_k120 C s (n + 1) 152 z = x_nx q_k120 C s n ((x_st (x_bin 153 (fun a b => a + b))) C z) := x_to_at f120_152 C s n z
theorem f120_153 : x_fetch q_k120 153 = x_ald 154 0 := rfl
theorem t120_153 (C : xF) (s n : Nat) (z : xS) : x_to q_k120 C s (n + 1) 153 z = x_nx q_k120 C s n ((x_ald 154 0) C z) := x_to_at f120_153 C s n z
theorem f120_154 : x_fetch q_k120 154 = x_st (x_bin 155 (fun a b => a + b)) := rfl
theorem t120_154 (C : xF) (s n : Nat) (z : xS) : x_to q_k120 C s (n + 1) 154 z = x_nx q_k120 C s n ((x_st (x_bin 155 (fun a b => a + b))) C z) := x_to_at f120_154 C s n z
theorem f120_155 : x_fetch q_k120 155 = x_ldi 157 6 := rfl
theorem t120_155 (C : xF) (s n : Nat) (z : xS) : x_to q_k120 C s (n + 1) 155 z = x_nx q_k120 C s n ((x_ldi 157 6) C z) := x_to_at f120_155 C s n z
set_option maxRecDepth 20000 in
theorem f120_157 : x_fetch q_k120 157 = x_st (x_push 159 (.int (100))) := rfl
theorem t120_157 (C : xF) (s n : Nat) (z : xS) : x_to q_k120 C s (n + 1) 157 z = x_nx q_k120 C s n ((x_st (x_push 159 (.int (100)))) C z) := x_to_at f120_157 C s n z
set_option maxRecDepth 20000 in
theorem f120_159 : x_fetch q_k120 159 = x_st (x_iclt 170 162) := rfl
theorem t120_159 (C : xF) (s n : Nat) (z : xS) : x_to q_k120 C s (n + 1) 159 z = x_nx q_k120 C s n ((x_st (x_iclt 170 162)) C z) := x_to_at f120_159 C s n z
set_option maxRecDepth 20000 in
theorem f120_162 : x_fetch q_k120 162 = x_ldi 164 6 := rfl
theorem t120_162 (C : xF) (s n : Nat) (z : xS) : x_to q_k120 C s (n + 1) 162 z = x_nx q_k120 C s n ((x_ldi 164 6) C z) := x_to_at f120_162 C s n z
set_option maxRecDepth 20000 in
theorem f120_164 : x_fetch q_k120 164 = x_st (x_push 166 (.int (100))) := rfl
theorem t120_164 (C : xF) (s n : Nat) (z : xS) : x_to q_k120 C s (n + 1) 164 z = x_nx q_k120 C s n ((x_st (x_push 166 (.int (100)))) C z) := x_to_at f120_164 C s n z
set_option maxRecDepth 20000 in
theorem f120_166 : x_fetch q_k120 166 = x_st (x_bin 167 (fun a b => a - b)) := rfl
theorem t120_166 (C : xF) (s n : Nat) (z : xS) : x_to q_k120 C s (n + 1) 166 z = x_nx q_k120 C s n ((x_st (x_bin 167 (fun a b => a - b))) C z) := x_to_at f120_166 C s n z
set_option maxRecDepth 20000 in
theorem f120_167 : x_fetch q_k120 167 = x_st (x_goto 172) := rfl
theorem t120_167 (C : xF) (s n : Nat) (z : xS) : x_to q_k120 C s (n + 1) 167 z = x_nx q_k120 C s n ((x_st (x_goto 172)) C z) := x_to_at f120_167 C s n z
set_option maxRecDepth 20000 in
theorem f120_170 : x_fetch q_k120 170 = x_ldi 172 6 := rfl
theorem t120_170 (C : xF) (s n : Nat) (z : xS) : x_to q_k120 C s (n + 1) 170 z = x_nx q_k120 C s n ((x_ldi 172 6) C z) := x_to_at f120_170 C s n z
set_option maxRecDepth 20000 in
theorem f120_172 : x_fetch q_k120 172 = x_cv 175 118 4 8 := rfl
theorem t120_172 (C : xF) (s n : Nat) (z : xS) : x_to q_k120 C s (n + 1) 172 z = x_nx q_k120 C s n ((x_cv 175 118 4 8) C z) := x_to_at f120_172 C s n z
set_option maxRecDepth 20000 in
theorem f120_175 : x_fetch q_k120 175 = x_st (x_iflt 182 178) := rfl
theorem t120_175 (C : xF) (s n : Nat) (z : xS) : x_to q_k120 C s (n + 1) 175 z = x_nx q_k120 C s n ((x_st (x_iflt 182 178)) C z) := x_to_at f120_175 C s n z
set_option maxRecDepth 20000 in
theorem f120_178 : x_fetch q_k120 178 = x_st (x_push 179 (.int (1))) := rfl
theorem t120_178 (C : xF) (s n : Nat) (z : xS) : x_to q_k120 C s (n + 1) 178 z = x_nx q_k120 C s n ((x_st (x_push 179 (.int (1)))) C z) := x_to_at f120_178 C s n z
set_option maxRecDepth 20000 in
theorem f120_179 : x_fetch q_k120 179 = x_st (x_goto 183) := rfl
theorem t120_179 (C : xF) (s n : Nat) (z : xS) : x_to q_k120 C s (n + 1) 179 z = x_nx q_k120 C s n ((x_st (x_goto 183)) C z) := x_to_at f120_179 C s n z
set_option maxRecDepth 20000 in
theorem f120_182 : x_fetch q_k120 182 = x_st (x_push 183 (.int (0))) := rfl
theorem t120_182 (C : xF) (s n : Nat) (z : xS) : x_to q_k120 C s (n + 1) 182 z = x_nx q_k120 C s n ((x_st (x_push 183 (.int (0)))) C z) := x_to_at f120_182 C s n z
set_option maxRecDepth 20000 in
theorem f120_183 : x_fetch q_k120 183 = x_ri (.boolean) := rfl
theorem t120_183 (C : xF) (s n : Nat) (z : xS) : x_to q_k120 C s (n + 1) 183 z = x_nx q_k120 C s n ((x_ri (.boolean)) C z) := x_to_at f120_183 C s n z
def litB (D : List (Int × List Int)) (k : Int) : Bool := decide (0 ≤ k ∧ k < D.length)
def plQ (p : Int) : Int := if 100 ≤ p then p - 100 else p
def plB (B : List Int) (p : Int) : Bool := decide (0 ≤ p ∧ 1 + plQ p < B.length ∧ 99 ≤ B.getD (1 + plQ p).toNat 0)
def thB (Ds : List (List (Int × List Int) × Bool × Int × Int)) (T : List Int) (rule i k j l p : Int) : Bool :=
  if rule < 0 ∨ 4 < rule ∨ i < 0 ∨ Ds.length ≤ i then false
  else if rule = 4 then decide (T ≠ [])
  else if litB (cl Ds i.toNat).1 k = false then false
  else if rule = 1 then litB (cl Ds i.toNat).1 l
  else if rule = 2 then true
  else if j < 0 ∨ Ds.length ≤ j ∨ litB (cl Ds j.toNat).1 l = false then false
  else if rule = 0 then true
  else plB (lC (cl Ds j.toNat).1 l.toNat).2 p
section TH
variable {w : Nat → xC} {N : Nat} {m : Nat → Int} {x : Nat → List Int} {Ds : List (List (Int × List Int) × Bool × Int × Int)} {T U : List Int}
theorem RS.rd (h : RS w m x Ds T U) {i : Int} (i0 : 0 ≤ i) (i1 : i < Ds.length) : RD i (cl Ds i.toNat).1 x := by
  have := (h.2.2.2.2.1 i.toNat (by omega)).1
  rw [show ((i.toNat : Nat) : Int) = i by omega] at this
  exact this
theorem x119 (d : Nat) (hN : 53 ≤ N) (h : RS w m x Ds T U) (i k : Int) (i0 : 0 ≤ i) (i1 : i < Ds.length) (k0 : -2147483648 ≤ k) (k1 : k < 2147483648) : Xc (d + 1) 119 [.ref 30, .int (iZ i), .int (iZ k)] (hp w N) (some (.int (iZ (bZ (litB (cl Ds i.toNat).1 k)))), hp w N) := by
  have hD := h.rd i0 i1
  obtain ⟨⟨a1, a2, a3, a4, a5, a6, a7, a8, a9⟩, g, _⟩ := hD
  have X := m119 d hN h.1.1 (h.1.2 30 (by decide) (by decide)).1 (h.1.2 30 (by decide) (by decide)).2 i k a4 a5 k0 k1 (by rw [a7]; omega)
  rw [a7] at X
  exact X
theorem m120a (d : Nat) (hN : 53 ≤ N) (h : RS w m x Ds T U) (rule i k j l p : Int) (rr : -2147483648 ≤ rule ∧ rule < 2147483648) (ir : -2147483648 ≤ i ∧ i < 2147483648) (kr : -2147483648 ≤ k ∧ k < 2147483648) (jr : -2147483648 ≤ j ∧ j < 2147483648) (lr : -2147483648 ≤ l ∧ l < 2147483648) (pr : -2147483648 ≤ p ∧ p < 2147483648) (hn : ¬ (rule = 3 ∧ 0 ≤ i ∧ i < Ds.length ∧ litB (cl Ds i.toNat).1 k = true ∧ 0 ≤ j ∧ j < Ds.length ∧ litB (cl Ds j.toNat).1 l = true)) :
    Xc (d + 2) 120 [.ref 30, .int (iZ rule), .int (iZ i), .int (iZ k), .int (iZ j), .int (iZ l), .int (iZ p)] (hp w N) (some (.int (iZ (bZ (thB Ds T rule i k j l p)))), hp w N) := by
  obtain ⟨h1, h2, h3, h4, h5, h6, h7, h8, h9, h10, h11⟩ := id h
  have hm := h1.1
  refine Xc.of rfl (by simp [lg_sl, Value.category]) ?_ x_le.rf
  have hc : c1 (lv_args 0 [.ref 30, .int (iZ rule), .int (iZ i), .int (iZ k), .int (iZ j), .int (iZ l), .int (iZ p)]) := by simp [c1, lv_args, Value.category]
  have l0 : x_lk (lv_args 0 [.ref 30, .int (iZ rule), .int (iZ i), .int (iZ k), .int (iZ j), .int (iZ l), .int (iZ p)]) 0 = some (.ref 30) := rfl
  have l1 : x_lk (lv_args 0 [.ref 30, .int (iZ rule), .int (iZ i), .int (iZ k), .int (iZ j), .int (iZ l), .int (iZ p)]) 1 = some (.int (iZ rule)) := rfl
  have l2 : x_lk (lv_args 0 [.ref 30, .int (iZ rule), .int (iZ i), .int (iZ k), .int (iZ j), .int (iZ l), .int (iZ p)]) 2 = some (.int (iZ i)) := rfl
  have l3 : x_lk (lv_args 0 [.ref 30, .int (iZ rule), .int (iZ i), .int (iZ k), .int (iZ j), .int (iZ l), .int (iZ p)]) 3 = some (.int (iZ k)) := rfl
  have l4 : x_lk (lv_args 0 [.ref 30, .int (iZ rule), .int (iZ i), .int (iZ k), .int (iZ j), .int (iZ l), .int (iZ p)]) 4 = some (.int (iZ j)) := rfl
  have l5 : x_lk (lv_args 0 [.ref 30, .int (iZ rule), .int (iZ i), .int (iZ k), .int (iZ j), .int (iZ l), .int (iZ p)]) 5 = some (.int (iZ l)) := rfl
  have l6 : x_lk (lv_args 0 [.ref 30, .int (iZ rule), .int (iZ i), .int (iZ k), .int (iZ j), .int (iZ l), .int (iZ p)]) 6 = some (.int (iZ p)) := rfl
  generalize lv_args 0 [.ref 30, .int (iZ rule), .int (iZ i), .int (iZ k), .int (iZ j), .int (iZ l), .int (iZ p)] = lv at hc l0 l1 l2 l3 l4 l5 l6
  have hcs : (Ds.length : Int) ≤ 30 := by omega
  have hcs0 : (0 : Int) ≤ Ds.length := by omega
  unfold thB
  by_cases b1 : rule < 0
  · rw [if_pos (Or.inl b1)]
    refine Gx.fin 80 Cs.tt (fun C _ => ?_)
    simp (disch := first | (refine c1_id ?_; assumption) | (refine c1_st rfl ?_; repeat (first | assumption | refine c1_st rfl ?_)) | omega) [nx_l, nx_r, nx_n, x_st, x_push, x_bin, x_div, x_un, x_dup, x_pop, x_dup2, x_goto, x_ifeq, x_ifne, x_iflt, x_ifge, x_ifgt, x_ifle, x_iceq, x_icne, x_iclt, x_icge, x_icgt, x_icle, x_ifnull, x_ifnonnull, x_ldi, x_lda, x_sti, x_sta, x_iinc, x_gf, x_pf, x_ald, x_ast, x_aln, x_len, x_cl_, x_cv, x_cs, x_rc, x_r0, x_isT, x_oi, x_rv, x_ri, x_ra, Value.category, t120_0, t120_1, t120_4, t120_5, t120_6, t120_9, t120_10, t120_13, t120_14, t120_15, t120_18, t120_21, t120_22, t120_23, t120_24, t120_25, t120_28, t120_29, t120_32, t120_35, t120_36, t120_39, t120_40, t120_41, t120_42, t120_43, t120_44, t120_47, t120_50, t120_51, t120_52, t120_53, t120_54, t120_57, t120_58, t120_59, t120_61, t120_64, t120_65, t120_66, t120_67, t120_70, t120_71, t120_72, t120_74, t120_77, t120_79, t120_80, t120_83, t120_86, t120_87, t120_89, t120_91, t120_94, t120_97, t120_98, t120_99, t120_100, t120_103, t120_104, t120_105, t120_106, t120_108, t120_110, t120_112, t120_115, t120_117, t120_120, t120_121, t120_123, t120_124, t120_127, t120_129, t120_131, t120_132, t120_134, t120_135, t120_136, t120_137, t120_139, t120_140, t120_143, t120_145, t120_147, t120_148, t120_150, t120_151, t120_152, t120_153, t120_154, t120_155, t120_157, t120_159, t120_162, t120_164, t120_166, t120_167, t120_170, t120_172, t120_175, t120_178, t120_179, t120_182, t120_183, lk_s, hp_get, hp_set, uH_at, uH_ne, uH_upd, uH_swap, iZ_add, iZ_sub, iZ_mul, iZ_neg, iZ_lt, iZ_le, iZ_eq, iZ_div, iZ_of, ix_Z, gZ_map, gZ_mapI, gZ_map', le_0, le_s, sZ_map, sZ_len, bZ_0, bZ_inj, bZ_t, bZ_f, nr_i, nr_0, nr_1, nr_b, ft_i, ft_b, ft_0, ft_1, zl_0, zl_1, zl_2, zl_4, zl_7, zl_26, zl_44, zl_100, mF_len, mg_0, mg_1, mg_2, mg_3, mg_4, mg_5, mg_6, mg_7, mg_8, mg_9, mg_10, mg_11, mg_12, mg_13, mg_14, mg_15, mg_16, mg_17, mg_18, mg_19, mg_20, mg_21, mg_22, mg_23, mg_24, mg_25, mg_26, mg_27, mg_28, mg_29, mg_30, mg_31, mg_32, mg_33, mg_34, mg_35, mg_36, mg_37, mg_38, ms_0, ms_1, ms_2, ms_13, ms_14, ms_15, ms_16, ms_21, ms_22, ms_23, ms_24, ms_28, ms_36, ms_37, ms_38, st_at, st_ne, st_st, st_swap, l0, l1, l2, hm, b1, -List.filter_filter, -List.getElem?_map, -List.getD_eq_getElem?_getD]
  by_cases b2 : 4 < rule
  · rw [if_pos (Or.inr (Or.inl b2))]
    refine Gx.fin 80 Cs.tt (fun C _ => ?_)
    simp (disch := first | (refine c1_id ?_; assumption) | (refine c1_st rfl ?_; repeat (first | assumption | refine c1_st rfl ?_)) | omega) [nx_l, nx_r, nx_n, x_st, x_push, x_bin, x_div, x_un, x_dup, x_pop, x_dup2, x_goto, x_ifeq, x_ifne, x_iflt, x_ifge, x_ifgt, x_ifle, x_iceq, x_icne, x_iclt, x_icge, x_icgt, x_icle, x_ifnull, x_ifnonnull, x_ldi, x_lda, x_sti, x_sta, x_iinc, x_gf, x_pf, x_ald, x_ast, x_aln, x_len, x_cl_, x_cv, x_cs, x_rc, x_r0, x_isT, x_oi, x_rv, x_ri, x_ra, Value.category, t120_0, t120_1, t120_4, t120_5, t120_6, t120_9, t120_10, t120_13, t120_14, t120_15, t120_18, t120_21, t120_22, t120_23, t120_24, t120_25, t120_28, t120_29, t120_32, t120_35, t120_36, t120_39, t120_40, t120_41, t120_42, t120_43, t120_44, t120_47, t120_50, t120_51, t120_52, t120_53, t120_54, t120_57, t120_58, t120_59, t120_61, t120_64, t120_65, t120_66, t120_67, t120_70, t120_71, t120_72, t120_74, t120_77, t120_79, t120_80, t120_83, t120_86, t120_87, t120_89, t120_91, t120_94, t120_97, t120_98, t120_99, t120_100, t120_103, t120_104, t120_105, t120_106, t120_108, t120_110, t120_112, t120_115, t120_117, t120_120, t120_121, t120_123, t120_124, t120_127, t120_129, t120_131, t120_132, t120_134, t120_135, t120_136, t120_137, t120_139, t120_140, t120_143, t120_145, t120_147, t120_148, t120_150, t120_151, t120_152, t120_153, t120_154, t120_155, t120_157, t120_159, t120_162, t120_164, t120_166, t120_167, t120_170, t120_172, t120_175, t120_178, t120_179, t120_182, t120_183, lk_s, hp_get, hp_set, uH_at, uH_ne, uH_upd, uH_swap, iZ_add, iZ_sub, iZ_mul, iZ_neg, iZ_lt, iZ_le, iZ_eq, iZ_div, iZ_of, ix_Z, gZ_map, gZ_mapI, gZ_map', le_0, le_s, sZ_map, sZ_len, bZ_0, bZ_inj, bZ_t, bZ_f, nr_i, nr_0, nr_1, nr_b, ft_i, ft_b, ft_0, ft_1, zl_0, zl_1, zl_2, zl_4, zl_7, zl_26, zl_44, zl_100, mF_len, mg_0, mg_1, mg_2, mg_3, mg_4, mg_5, mg_6, mg_7, mg_8, mg_9, mg_10, mg_11, mg_12, mg_13, mg_14, mg_15, mg_16, mg_17, mg_18, mg_19, mg_20, mg_21, mg_22, mg_23, mg_24, mg_25, mg_26, mg_27, mg_28, mg_29, mg_30, mg_31, mg_32, mg_33, mg_34, mg_35, mg_36, mg_37, mg_38, ms_0, ms_1, ms_2, ms_13, ms_14, ms_15, ms_16, ms_21, ms_22, ms_23, ms_24, ms_28, ms_36, ms_37, ms_38, st_at, st_ne, st_st, st_swap, l0, l1, l2, hm, b1, b2, -List.filter_filter, -List.getElem?_map, -List.getD_eq_getElem?_getD]
  by_cases b3 : i < 0
  · rw [if_pos (Or.inr (Or.inr (Or.inl b3)))]
    refine Gx.fin 80 Cs.tt (fun C _ => ?_)
    simp (disch := first | (refine c1_id ?_; assumption) | (refine c1_st rfl ?_; repeat (first | assumption | refine c1_st rfl ?_)) | omega) [nx_l, nx_r, nx_n, x_st, x_push, x_bin, x_div, x_un, x_dup, x_pop, x_dup2, x_goto, x_ifeq, x_ifne, x_iflt, x_ifge, x_ifgt, x_ifle, x_iceq, x_icne, x_iclt, x_icge, x_icgt, x_icle, x_ifnull, x_ifnonnull, x_ldi, x_lda, x_sti, x_sta, x_iinc, x_gf, x_pf, x_ald, x_ast, x_aln, x_len, x_cl_, x_cv, x_cs, x_rc, x_r0, x_isT, x_oi, x_rv, x_ri, x_ra, Value.category, t120_0, t120_1, t120_4, t120_5, t120_6, t120_9, t120_10, t120_13, t120_14, t120_15, t120_18, t120_21, t120_22, t120_23, t120_24, t120_25, t120_28, t120_29, t120_32, t120_35, t120_36, t120_39, t120_40, t120_41, t120_42, t120_43, t120_44, t120_47, t120_50, t120_51, t120_52, t120_53, t120_54, t120_57, t120_58, t120_59, t120_61, t120_64, t120_65, t120_66, t120_67, t120_70, t120_71, t120_72, t120_74, t120_77, t120_79, t120_80, t120_83, t120_86, t120_87, t120_89, t120_91, t120_94, t120_97, t120_98, t120_99, t120_100, t120_103, t120_104, t120_105, t120_106, t120_108, t120_110, t120_112, t120_115, t120_117, t120_120, t120_121, t120_123, t120_124, t120_127, t120_129, t120_131, t120_132, t120_134, t120_135, t120_136, t120_137, t120_139, t120_140, t120_143, t120_145, t120_147, t120_148, t120_150, t120_151, t120_152, t120_153, t120_154, t120_155, t120_157, t120_159, t120_162, t120_164, t120_166, t120_167, t120_170, t120_172, t120_175, t120_178, t120_179, t120_182, t120_183, lk_s, hp_get, hp_set, uH_at, uH_ne, uH_upd, uH_swap, iZ_add, iZ_sub, iZ_mul, iZ_neg, iZ_lt, iZ_le, iZ_eq, iZ_div, iZ_of, ix_Z, gZ_map, gZ_mapI, gZ_map', le_0, le_s, sZ_map, sZ_len, bZ_0, bZ_inj, bZ_t, bZ_f, nr_i, nr_0, nr_1, nr_b, ft_i, ft_b, ft_0, ft_1, zl_0, zl_1, zl_2, zl_4, zl_7, zl_26, zl_44, zl_100, mF_len, mg_0, mg_1, mg_2, mg_3, mg_4, mg_5, mg_6, mg_7, mg_8, mg_9, mg_10, mg_11, mg_12, mg_13, mg_14, mg_15, mg_16, mg_17, mg_18, mg_19, mg_20, mg_21, mg_22, mg_23, mg_24, mg_25, mg_26, mg_27, mg_28, mg_29, mg_30, mg_31, mg_32, mg_33, mg_34, mg_35, mg_36, mg_37, mg_38, ms_0, ms_1, ms_2, ms_13, ms_14, ms_15, ms_16, ms_21, ms_22, ms_23, ms_24, ms_28, ms_36, ms_37, ms_38, st_at, st_ne, st_st, st_swap, l0, l1, l2, hm, b1, b2, b3, -List.filter_filter, -List.getElem?_map, -List.getD_eq_getElem?_getD]
  by_cases b4x : (Ds.length : Int) ≤ i
  · rw [if_pos (Or.inr (Or.inr (Or.inr b4x)))]
    have b4 : ¬ i < (Ds.length : Int) := by omega
    refine Gx.fin 80 Cs.tt (fun C _ => ?_)
    simp (disch := first | (refine c1_id ?_; assumption) | (refine c1_st rfl ?_; repeat (first | assumption | refine c1_st rfl ?_)) | omega) [nx_l, nx_r, nx_n, x_st, x_push, x_bin, x_div, x_un, x_dup, x_pop, x_dup2, x_goto, x_ifeq, x_ifne, x_iflt, x_ifge, x_ifgt, x_ifle, x_iceq, x_icne, x_iclt, x_icge, x_icgt, x_icle, x_ifnull, x_ifnonnull, x_ldi, x_lda, x_sti, x_sta, x_iinc, x_gf, x_pf, x_ald, x_ast, x_aln, x_len, x_cl_, x_cv, x_cs, x_rc, x_r0, x_isT, x_oi, x_rv, x_ri, x_ra, Value.category, t120_0, t120_1, t120_4, t120_5, t120_6, t120_9, t120_10, t120_13, t120_14, t120_15, t120_18, t120_21, t120_22, t120_23, t120_24, t120_25, t120_28, t120_29, t120_32, t120_35, t120_36, t120_39, t120_40, t120_41, t120_42, t120_43, t120_44, t120_47, t120_50, t120_51, t120_52, t120_53, t120_54, t120_57, t120_58, t120_59, t120_61, t120_64, t120_65, t120_66, t120_67, t120_70, t120_71, t120_72, t120_74, t120_77, t120_79, t120_80, t120_83, t120_86, t120_87, t120_89, t120_91, t120_94, t120_97, t120_98, t120_99, t120_100, t120_103, t120_104, t120_105, t120_106, t120_108, t120_110, t120_112, t120_115, t120_117, t120_120, t120_121, t120_123, t120_124, t120_127, t120_129, t120_131, t120_132, t120_134, t120_135, t120_136, t120_137, t120_139, t120_140, t120_143, t120_145, t120_147, t120_148, t120_150, t120_151, t120_152, t120_153, t120_154, t120_155, t120_157, t120_159, t120_162, t120_164, t120_166, t120_167, t120_170, t120_172, t120_175, t120_178, t120_179, t120_182, t120_183, lk_s, hp_get, hp_set, uH_at, uH_ne, uH_upd, uH_swap, iZ_add, iZ_sub, iZ_mul, iZ_neg, iZ_lt, iZ_le, iZ_eq, iZ_div, iZ_of, ix_Z, gZ_map, gZ_mapI, gZ_map', le_0, le_s, sZ_map, sZ_len, bZ_0, bZ_inj, bZ_t, bZ_f, nr_i, nr_0, nr_1, nr_b, ft_i, ft_b, ft_0, ft_1, zl_0, zl_1, zl_2, zl_4, zl_7, zl_26, zl_44, zl_100, mF_len, mg_0, mg_1, mg_2, mg_3, mg_4, mg_5, mg_6, mg_7, mg_8, mg_9, mg_10, mg_11, mg_12, mg_13, mg_14, mg_15, mg_16, mg_17, mg_18, mg_19, mg_20, mg_21, mg_22, mg_23, mg_24, mg_25, mg_26, mg_27, mg_28, mg_29, mg_30, mg_31, mg_32, mg_33, mg_34, mg_35, mg_36, mg_37, mg_38, ms_0, ms_1, ms_2, ms_13, ms_14, ms_15, ms_16, ms_21, ms_22, ms_23, ms_24, ms_28, ms_36, ms_37, ms_38, st_at, st_ne, st_st, st_swap, l0, l1, l2, hm, h3, b1, b2, b3, b4, -List.filter_filter, -List.getElem?_map, -List.getD_eq_getElem?_getD]
  have b4 : i < (Ds.length : Int) := by omega
  rw [if_neg (by omega)]
  by_cases b5 : rule = 4
  · subst b5
    rw [if_pos rfl]
    refine Gx.fin 80 Cs.tt (fun C _ => ?_)
    cases T with
    | nil =>
      have c1_ : m 3 ≤ 0 := by rw [h8]; simp
      rw [decide_eq_false (by simp)]
      have c2 : (-2147483648 : Int) ≤ m 3 := by rw [h8]; simp
      simp (disch := first | (refine c1_id ?_; assumption) | (refine c1_st rfl ?_; repeat (first | assumption | refine c1_st rfl ?_)) | omega) [nx_l, nx_r, nx_n, x_st, x_push, x_bin, x_div, x_un, x_dup, x_pop, x_dup2, x_goto, x_ifeq, x_ifne, x_iflt, x_ifge, x_ifgt, x_ifle, x_iceq, x_icne, x_iclt, x_icge, x_icgt, x_icle, x_ifnull, x_ifnonnull, x_ldi, x_lda, x_sti, x_sta, x_iinc, x_gf, x_pf, x_ald, x_ast, x_aln, x_len, x_cl_, x_cv, x_cs, x_rc, x_r0, x_isT, x_oi, x_rv, x_ri, x_ra, Value.category, t120_0, t120_1, t120_4, t120_5, t120_6, t120_9, t120_10, t120_13, t120_14, t120_15, t120_18, t120_21, t120_22, t120_23, t120_24, t120_25, t120_28, t120_29, t120_32, t120_35, t120_36, t120_39, t120_40, t120_41, t120_42, t120_43, t120_44, t120_47, t120_50, t120_51, t120_52, t120_53, t120_54, t120_57, t120_58, t120_59, t120_61, t120_64, t120_65, t120_66, t120_67, t120_70, t120_71, t120_72, t120_74, t120_77, t120_79, t120_80, t120_83, t120_86, t120_87, t120_89, t120_91, t120_94, t120_97, t120_98, t120_99, t120_100, t120_103, t120_104, t120_105, t120_106, t120_108, t120_110, t120_112, t120_115, t120_117, t120_120, t120_121, t120_123, t120_124, t120_127, t120_129, t120_131, t120_132, t120_134, t120_135, t120_136, t120_137, t120_139, t120_140, t120_143, t120_145, t120_147, t120_148, t120_150, t120_151, t120_152, t120_153, t120_154, t120_155, t120_157, t120_159, t120_162, t120_164, t120_166, t120_167, t120_170, t120_172, t120_175, t120_178, t120_179, t120_182, t120_183, lk_s, hp_get, hp_set, uH_at, uH_ne, uH_upd, uH_swap, iZ_add, iZ_sub, iZ_mul, iZ_neg, iZ_lt, iZ_le, iZ_eq, iZ_div, iZ_of, ix_Z, gZ_map, gZ_mapI, gZ_map', le_0, le_s, sZ_map, sZ_len, bZ_0, bZ_inj, bZ_t, bZ_f, nr_i, nr_0, nr_1, nr_b, ft_i, ft_b, ft_0, ft_1, zl_0, zl_1, zl_2, zl_4, zl_7, zl_26, zl_44, zl_100, mF_len, mg_0, mg_1, mg_2, mg_3, mg_4, mg_5, mg_6, mg_7, mg_8, mg_9, mg_10, mg_11, mg_12, mg_13, mg_14, mg_15, mg_16, mg_17, mg_18, mg_19, mg_20, mg_21, mg_22, mg_23, mg_24, mg_25, mg_26, mg_27, mg_28, mg_29, mg_30, mg_31, mg_32, mg_33, mg_34, mg_35, mg_36, mg_37, mg_38, ms_0, ms_1, ms_2, ms_13, ms_14, ms_15, ms_16, ms_21, ms_22, ms_23, ms_24, ms_28, ms_36, ms_37, ms_38, st_at, st_ne, st_st, st_swap, l0, l1, l2, hm, h3, b3, b4, c1_, -List.filter_filter, -List.getElem?_map, -List.getD_eq_getElem?_getD]
    | cons t T =>
      have c1_ : ¬ m 3 ≤ 0 := by rw [h8]; simp only [List.length_cons]; omega
      have c2 : m 3 < 2147483648 := by rw [h8]; omega
      rw [decide_eq_true (by simp)]
      simp (disch := first | (refine c1_id ?_; assumption) | (refine c1_st rfl ?_; repeat (first | assumption | refine c1_st rfl ?_)) | omega) [nx_l, nx_r, nx_n, x_st, x_push, x_bin, x_div, x_un, x_dup, x_pop, x_dup2, x_goto, x_ifeq, x_ifne, x_iflt, x_ifge, x_ifgt, x_ifle, x_iceq, x_icne, x_iclt, x_icge, x_icgt, x_icle, x_ifnull, x_ifnonnull, x_ldi, x_lda, x_sti, x_sta, x_iinc, x_gf, x_pf, x_ald, x_ast, x_aln, x_len, x_cl_, x_cv, x_cs, x_rc, x_r0, x_isT, x_oi, x_rv, x_ri, x_ra, Value.category, t120_0, t120_1, t120_4, t120_5, t120_6, t120_9, t120_10, t120_13, t120_14, t120_15, t120_18, t120_21, t120_22, t120_23, t120_24, t120_25, t120_28, t120_29, t120_32, t120_35, t120_36, t120_39, t120_40, t120_41, t120_42, t120_43, t120_44, t120_47, t120_50, t120_51, t120_52, t120_53, t120_54, t120_57, t120_58, t120_59, t120_61, t120_64, t120_65, t120_66, t120_67, t120_70, t120_71, t120_72, t120_74, t120_77, t120_79, t120_80, t120_83, t120_86, t120_87, t120_89, t120_91, t120_94, t120_97, t120_98, t120_99, t120_100, t120_103, t120_104, t120_105, t120_106, t120_108, t120_110, t120_112, t120_115, t120_117, t120_120, t120_121, t120_123, t120_124, t120_127, t120_129, t120_131, t120_132, t120_134, t120_135, t120_136, t120_137, t120_139, t120_140, t120_143, t120_145, t120_147, t120_148, t120_150, t120_151, t120_152, t120_153, t120_154, t120_155, t120_157, t120_159, t120_162, t120_164, t120_166, t120_167, t120_170, t120_172, t120_175, t120_178, t120_179, t120_182, t120_183, lk_s, hp_get, hp_set, uH_at, uH_ne, uH_upd, uH_swap, iZ_add, iZ_sub, iZ_mul, iZ_neg, iZ_lt, iZ_le, iZ_eq, iZ_div, iZ_of, ix_Z, gZ_map, gZ_mapI, gZ_map', le_0, le_s, sZ_map, sZ_len, bZ_0, bZ_inj, bZ_t, bZ_f, nr_i, nr_0, nr_1, nr_b, ft_i, ft_b, ft_0, ft_1, zl_0, zl_1, zl_2, zl_4, zl_7, zl_26, zl_44, zl_100, mF_len, mg_0, mg_1, mg_2, mg_3, mg_4, mg_5, mg_6, mg_7, mg_8, mg_9, mg_10, mg_11, mg_12, mg_13, mg_14, mg_15, mg_16, mg_17, mg_18, mg_19, mg_20, mg_21, mg_22, mg_23, mg_24, mg_25, mg_26, mg_27, mg_28, mg_29, mg_30, mg_31, mg_32, mg_33, mg_34, mg_35, mg_36, mg_37, mg_38, ms_0, ms_1, ms_2, ms_13, ms_14, ms_15, ms_16, ms_21, ms_22, ms_23, ms_24, ms_28, ms_36, ms_37, ms_38, st_at, st_ne, st_st, st_swap, l0, l1, l2, hm, h3, b3, b4, c1_, -List.filter_filter, -List.getElem?_map, -List.getD_eq_getElem?_getD]
  rw [if_neg b5]
  have Y1 := x119 d hN h i k (by omega) b4 kr.1 kr.2
  have q1 : rule = 0 ∨ rule = 1 ∨ rule = 2 ∨ rule = 3 := by omega
  cases hk : litB (cl Ds i.toNat).1 k with
  | false =>
    rw [if_pos rfl]
    rw [hk] at Y1
    refine Gx.fin 80 Y1 (fun C mm => ?_)
    rw [bZ_f] at mm
    rcases q1 with rfl | rfl | rfl | rfl
    · simp (disch := first | (refine c1_id ?_; assumption) | (refine c1_st rfl ?_; repeat (first | assumption | refine c1_st rfl ?_)) | omega) [nx_l, nx_r, nx_n, x_st, x_push, x_bin, x_div, x_un, x_dup, x_pop, x_dup2, x_goto, x_ifeq, x_ifne, x_iflt, x_ifge, x_ifgt, x_ifle, x_iceq, x_icne, x_iclt, x_icge, x_icgt, x_icle, x_ifnull, x_ifnonnull, x_ldi, x_lda, x_sti, x_sta, x_iinc, x_gf, x_pf, x_ald, x_ast, x_aln, x_len, x_cl_, x_cv, x_cs, x_rc, x_r0, x_isT, x_oi, x_rv, x_ri, x_ra, Value.category, t120_0, t120_1, t120_4, t120_5, t120_6, t120_9, t120_10, t120_13, t120_14, t120_15, t120_18, t120_21, t120_22, t120_23, t120_24, t120_25, t120_28, t120_29, t120_32, t120_35, t120_36, t120_39, t120_40, t120_41, t120_42, t120_43, t120_44, t120_47, t120_50, t120_51, t120_52, t120_53, t120_54, t120_57, t120_58, t120_59, t120_61, t120_64, t120_65, t120_66, t120_67, t120_70, t120_71, t120_72, t120_74, t120_77, t120_79, t120_80, t120_83, t120_86, t120_87, t120_89, t120_91, t120_94, t120_97, t120_98, t120_99, t120_100, t120_103, t120_104, t120_105, t120_106, t120_108, t120_110, t120_112, t120_115, t120_117, t120_120, t120_121, t120_123, t120_124, t120_127, t120_129, t120_131, t120_132, t120_134, t120_135, t120_136, t120_137, t120_139, t120_140, t120_143, t120_145, t120_147, t120_148, t120_150, t120_151, t120_152, t120_153, t120_154, t120_155, t120_157, t120_159, t120_162, t120_164, t120_166, t120_167, t120_170, t120_172, t120_175, t120_178, t120_179, t120_182, t120_183, lk_s, hp_get, hp_set, uH_at, uH_ne, uH_upd, uH_swap, iZ_add, iZ_sub, iZ_mul, iZ_neg, iZ_lt, iZ_le, iZ_eq, iZ_div, iZ_of, ix_Z, gZ_map, gZ_mapI, gZ_map', le_0, le_s, sZ_map, sZ_len, bZ_0, bZ_inj, bZ_t, bZ_f, nr_i, nr_0, nr_1, nr_b, ft_i, ft_b, ft_0, ft_1, zl_0, zl_1, zl_2, zl_4, zl_7, zl_26, zl_44, zl_100, mF_len, mg_0, mg_1, mg_2, mg_3, mg_4, mg_5, mg_6, mg_7, mg_8, mg_9, mg_10, mg_11, mg_12, mg_13, mg_14, mg_15, mg_16, mg_17, mg_18, mg_19, mg_20, mg_21, mg_22, mg_23, mg_24, mg_25, mg_26, mg_27, mg_28, mg_29, mg_30, mg_31, mg_32, mg_33, mg_34, mg_35, mg_36, mg_37, mg_38, ms_0, ms_1, ms_2, ms_13, ms_14, ms_15, ms_16, ms_21, ms_22, ms_23, ms_24, ms_28, ms_36, ms_37, ms_38, st_at, st_ne, st_st, st_swap, l0, l1, l2, l3, hm, h3, b3, b4, mm, -List.filter_filter, -List.getElem?_map, -List.getD_eq_getElem?_getD]
    · simp (disch := first | (refine c1_id ?_; assumption) | (refine c1_st rfl ?_; repeat (first | assumption | refine c1_st rfl ?_)) | omega) [nx_l, nx_r, nx_n, x_st, x_push, x_bin, x_div, x_un, x_dup, x_pop, x_dup2, x_goto, x_ifeq, x_ifne, x_iflt, x_ifge, x_ifgt, x_ifle, x_iceq, x_icne, x_iclt, x_icge, x_icgt, x_icle, x_ifnull, x_ifnonnull, x_ldi, x_lda, x_sti, x_sta, x_iinc, x_gf, x_pf, x_ald, x_ast, x_aln, x_len, x_cl_, x_cv, x_cs, x_rc, x_r0, x_isT, x_oi, x_rv, x_ri, x_ra, Value.category, t120_0, t120_1, t120_4, t120_5, t120_6, t120_9, t120_10, t120_13, t120_14, t120_15, t120_18, t120_21, t120_22, t120_23, t120_24, t120_25, t120_28, t120_29, t120_32, t120_35, t120_36, t120_39, t120_40, t120_41, t120_42, t120_43, t120_44, t120_47, t120_50, t120_51, t120_52, t120_53, t120_54, t120_57, t120_58, t120_59, t120_61, t120_64, t120_65, t120_66, t120_67, t120_70, t120_71, t120_72, t120_74, t120_77, t120_79, t120_80, t120_83, t120_86, t120_87, t120_89, t120_91, t120_94, t120_97, t120_98, t120_99, t120_100, t120_103, t120_104, t120_105, t120_106, t120_108, t120_110, t120_112, t120_115, t120_117, t120_120, t120_121, t120_123, t120_124, t120_127, t120_129, t120_131, t120_132, t120_134, t120_135, t120_136, t120_137, t120_139, t120_140, t120_143, t120_145, t120_147, t120_148, t120_150, t120_151, t120_152, t120_153, t120_154, t120_155, t120_157, t120_159, t120_162, t120_164, t120_166, t120_167, t120_170, t120_172, t120_175, t120_178, t120_179, t120_182, t120_183, lk_s, hp_get, hp_set, uH_at, uH_ne, uH_upd, uH_swap, iZ_add, iZ_sub, iZ_mul, iZ_neg, iZ_lt, iZ_le, iZ_eq, iZ_div, iZ_of, ix_Z, gZ_map, gZ_mapI, gZ_map', le_0, le_s, sZ_map, sZ_len, bZ_0, bZ_inj, bZ_t, bZ_f, nr_i, nr_0, nr_1, nr_b, ft_i, ft_b, ft_0, ft_1, zl_0, zl_1, zl_2, zl_4, zl_7, zl_26, zl_44, zl_100, mF_len, mg_0, mg_1, mg_2, mg_3, mg_4, mg_5, mg_6, mg_7, mg_8, mg_9, mg_10, mg_11, mg_12, mg_13, mg_14, mg_15, mg_16, mg_17, mg_18, mg_19, mg_20, mg_21, mg_22, mg_23, mg_24, mg_25, mg_26, mg_27, mg_28, mg_29, mg_30, mg_31, mg_32, mg_33, mg_34, mg_35, mg_36, mg_37, mg_38, ms_0, ms_1, ms_2, ms_13, ms_14, ms_15, ms_16, ms_21, ms_22, ms_23, ms_24, ms_28, ms_36, ms_37, ms_38, st_at, st_ne, st_st, st_swap, l0, l1, l2, l3, hm, h3, b3, b4, mm, -List.filter_filter, -List.getElem?_map, -List.getD_eq_getElem?_getD]
    · simp (disch := first | (refine c1_id ?_; assumption) | (refine c1_st rfl ?_; repeat (first | assumption | refine c1_st rfl ?_)) | omega) [nx_l, nx_r, nx_n, x_st, x_push, x_bin, x_div, x_un, x_dup, x_pop, x_dup2, x_goto, x_ifeq, x_ifne, x_iflt, x_ifge, x_ifgt, x_ifle, x_iceq, x_icne, x_iclt, x_icge, x_icgt, x_icle, x_ifnull, x_ifnonnull, x_ldi, x_lda, x_sti, x_sta, x_iinc, x_gf, x_pf, x_ald, x_ast, x_aln, x_len, x_cl_, x_cv, x_cs, x_rc, x_r0, x_isT, x_oi, x_rv, x_ri, x_ra, Value.category, t120_0, t120_1, t120_4, t120_5, t120_6, t120_9, t120_10, t120_13, t120_14, t120_15, t120_18, t120_21, t120_22, t120_23, t120_24, t120_25, t120_28, t120_29, t120_32, t120_35, t120_36, t120_39, t120_40, t120_41, t120_42, t120_43, t120_44, t120_47, t120_50, t120_51, t120_52, t120_53, t120_54, t120_57, t120_58, t120_59, t120_61, t120_64, t120_65, t120_66, t120_67, t120_70, t120_71, t120_72, t120_74, t120_77, t120_79, t120_80, t120_83, t120_86, t120_87, t120_89, t120_91, t120_94, t120_97, t120_98, t120_99, t120_100, t120_103, t120_104, t120_105, t120_106, t120_108, t120_110, t120_112, t120_115, t120_117, t120_120, t120_121, t120_123, t120_124, t120_127, t120_129, t120_131, t120_132, t120_134, t120_135, t120_136, t120_137, t120_139, t120_140, t120_143, t120_145, t120_147, t120_148, t120_150, t120_151, t120_152, t120_153, t120_154, t120_155, t120_157, t120_159, t120_162, t120_164, t120_166, t120_167, t120_170, t120_172, t120_175, t120_178, t120_179, t120_182, t120_183, lk_s, hp_get, hp_set, uH_at, uH_ne, uH_upd, uH_swap, iZ_add, iZ_sub, iZ_mul, iZ_neg, iZ_lt, iZ_le, iZ_eq, iZ_div, iZ_of, ix_Z, gZ_map, gZ_mapI, gZ_map', le_0, le_s, sZ_map, sZ_len, bZ_0, bZ_inj, bZ_t, bZ_f, nr_i, nr_0, nr_1, nr_b, ft_i, ft_b, ft_0, ft_1, zl_0, zl_1, zl_2, zl_4, zl_7, zl_26, zl_44, zl_100, mF_len, mg_0, mg_1, mg_2, mg_3, mg_4, mg_5, mg_6, mg_7, mg_8, mg_9, mg_10, mg_11, mg_12, mg_13, mg_14, mg_15, mg_16, mg_17, mg_18, mg_19, mg_20, mg_21, mg_22, mg_23, mg_24, mg_25, mg_26, mg_27, mg_28, mg_29, mg_30, mg_31, mg_32, mg_33, mg_34, mg_35, mg_36, mg_37, mg_38, ms_0, ms_1, ms_2, ms_13, ms_14, ms_15, ms_16, ms_21, ms_22, ms_23, ms_24, ms_28, ms_36, ms_37, ms_38, st_at, st_ne, st_st, st_swap, l0, l1, l2, l3, hm, h3, b3, b4, mm, -List.filter_filter, -List.getElem?_map, -List.getD_eq_getElem?_getD]
    · simp (disch := first | (refine c1_id ?_; assumption) | (refine c1_st rfl ?_; repeat (first | assumption | refine c1_st rfl ?_)) | omega) [nx_l, nx_r, nx_n, x_st, x_push, x_bin, x_div, x_un, x_dup, x_pop, x_dup2, x_goto, x_ifeq, x_ifne, x_iflt, x_ifge, x_ifgt, x_ifle, x_iceq, x_icne, x_iclt, x_icge, x_icgt, x_icle, x_ifnull, x_ifnonnull, x_ldi, x_lda, x_sti, x_sta, x_iinc, x_gf, x_pf, x_ald, x_ast, x_aln, x_len, x_cl_, x_cv, x_cs, x_rc, x_r0, x_isT, x_oi, x_rv, x_ri, x_ra, Value.category, t120_0, t120_1, t120_4, t120_5, t120_6, t120_9, t120_10, t120_13, t120_14, t120_15, t120_18, t120_21, t120_22, t120_23, t120_24, t120_25, t120_28, t120_29, t120_32, t120_35, t120_36, t120_39, t120_40, t120_41, t120_42, t120_43, t120_44, t120_47, t120_50, t120_51, t120_52, t120_53, t120_54, t120_57, t120_58, t120_59, t120_61, t120_64, t120_65, t120_66, t120_67, t120_70, t120_71, t120_72, t120_74, t120_77, t120_79, t120_80, t120_83, t120_86, t120_87, t120_89, t120_91, t120_94, t120_97, t120_98, t120_99, t120_100, t120_103, t120_104, t120_105, t120_106, t120_108, t120_110, t120_112, t120_115, t120_117, t120_120, t120_121, t120_123, t120_124, t120_127, t120_129, t120_131, t120_132, t120_134, t120_135, t120_136, t120_137, t120_139, t120_140, t120_143, t120_145, t120_147, t120_148, t120_150, t120_151, t120_152, t120_153, t120_154, t120_155, t120_157, t120_159, t120_162, t120_164, t120_166, t120_167, t120_170, t120_172, t120_175, t120_178, t120_179, t120_182, t120_183, lk_s, hp_get, hp_set, uH_at, uH_ne, uH_upd, uH_swap, iZ_add, iZ_sub, iZ_mul, iZ_neg, iZ_lt, iZ_le, iZ_eq, iZ_div, iZ_of, ix_Z, gZ_map, gZ_mapI, gZ_map', le_0, le_s, sZ_map, sZ_len, bZ_0, bZ_inj, bZ_t, bZ_f, nr_i, nr_0, nr_1, nr_b, ft_i, ft_b, ft_0, ft_1, zl_0, zl_1, zl_2, zl_4, zl_7, zl_26, zl_44, zl_100, mF_len, mg_0, mg_1, mg_2, mg_3, mg_4, mg_5, mg_6, mg_7, mg_8, mg_9, mg_10, mg_11, mg_12, mg_13, mg_14, mg_15, mg_16, mg_17, mg_18, mg_19, mg_20, mg_21, mg_22, mg_23, mg_24, mg_25, mg_26, mg_27, mg_28, mg_29, mg_30, mg_31, mg_32, mg_33, mg_34, mg_35, mg_36, mg_37, mg_38, ms_0, ms_1, ms_2, ms_13, ms_14, ms_15, ms_16, ms_21, ms_22, ms_23, ms_24, ms_28, ms_36, ms_37, ms_38, st_at, st_ne, st_st, st_swap, l0, l1, l2, l3, hm, h3, b3, b4, mm, -List.filter_filter, -List.getElem?_map, -List.getD_eq_getElem?_getD]
  | true =>
    rw [if_neg (by decide)]
    rw [hk, bZ_t] at Y1
    rcases q1 with rfl | rfl | rfl | rfl
    · rw [if_neg (by decide), if_neg (by decide)]
      by_cases b6 : j < 0
      · rw [if_pos (Or.inl b6)]
        refine Gx.fin 80 Y1 (fun C mm => ?_)
        simp (disch := first | (refine c1_id ?_; assumption) | (refine c1_st rfl ?_; repeat (first | assumption | refine c1_st rfl ?_)) | omega) [nx_l, nx_r, nx_n, x_st, x_push, x_bin, x_div, x_un, x_dup, x_pop, x_dup2, x_goto, x_ifeq, x_ifne, x_iflt, x_ifge, x_ifgt, x_ifle, x_iceq, x_icne, x_iclt, x_icge, x_icgt, x_icle, x_ifnull, x_ifnonnull, x_ldi, x_lda, x_sti, x_sta, x_iinc, x_gf, x_pf, x_ald, x_ast, x_aln, x_len, x_cl_, x_cv, x_cs, x_rc, x_r0, x_isT, x_oi, x_rv, x_ri, x_ra, Value.category, t120_0, t120_1, t120_4, t120_5, t120_6, t120_9, t120_10, t120_13, t120_14, t120_15, t120_18, t120_21, t120_22, t120_23, t120_24, t120_25, t120_28, t120_29, t120_32, t120_35, t120_36, t120_39, t120_40, t120_41, t120_42, t120_43, t120_44, t120_47, t120_50, t120_51, t120_52, t120_53, t120_54, t120_57, t120_58, t120_59, t120_61, t120_64, t120_65, t120_66, t120_67, t120_70, t120_71, t120_72, t120_74, t120_77, t120_79, t120_80, t120_83, t120_86, t120_87, t120_89, t120_91, t120_94, t120_97, t120_98, t120_99, t120_100, t120_103, t120_104, t120_105, t120_106, t120_108, t120_110, t120_112, t120_115, t120_117, t120_120, t120_121, t120_123, t120_124, t120_127, t120_129, t120_131, t120_132, t120_134, t120_135, t120_136, t120_137, t120_139, t120_140, t120_143, t120_145, t120_147, t120_148, t120_150, t120_151, t120_152, t120_153, t120_154, t120_155, t120_157, t120_159, t120_162, t120_164, t120_166, t120_167, t120_170, t120_172, t120_175, t120_178, t120_179, t120_182, t120_183, lk_s, hp_get, hp_set, uH_at, uH_ne, uH_upd, uH_swap, iZ_add, iZ_sub, iZ_mul, iZ_neg, iZ_lt, iZ_le, iZ_eq, iZ_div, iZ_of, ix_Z, gZ_map, gZ_mapI, gZ_map', le_0, le_s, sZ_map, sZ_len, bZ_0, bZ_inj, bZ_t, bZ_f, nr_i, nr_0, nr_1, nr_b, ft_i, ft_b, ft_0, ft_1, zl_0, zl_1, zl_2, zl_4, zl_7, zl_26, zl_44, zl_100, mF_len, mg_0, mg_1, mg_2, mg_3, mg_4, mg_5, mg_6, mg_7, mg_8, mg_9, mg_10, mg_11, mg_12, mg_13, mg_14, mg_15, mg_16, mg_17, mg_18, mg_19, mg_20, mg_21, mg_22, mg_23, mg_24, mg_25, mg_26, mg_27, mg_28, mg_29, mg_30, mg_31, mg_32, mg_33, mg_34, mg_35, mg_36, mg_37, mg_38, ms_0, ms_1, ms_2, ms_13, ms_14, ms_15, ms_16, ms_21, ms_22, ms_23, ms_24, ms_28, ms_36, ms_37, ms_38, st_at, st_ne, st_st, st_swap, l0, l1, l2, l3, l4, hm, h3, b3, b4, b6, mm, -List.filter_filter, -List.getElem?_map, -List.getD_eq_getElem?_getD]
      by_cases b7 : (Ds.length : Int) ≤ j
      · rw [if_pos (Or.inr (Or.inl b7))]
        refine Gx.fin 80 Y1 (fun C mm => ?_)
        simp (disch := first | (refine c1_id ?_; assumption) | (refine c1_st rfl ?_; repeat (first | assumption | refine c1_st rfl ?_)) | omega) [nx_l, nx_r, nx_n, x_st, x_push, x_bin, x_div, x_un, x_dup, x_pop, x_dup2, x_goto, x_ifeq, x_ifne, x_iflt, x_ifge, x_ifgt, x_ifle, x_iceq, x_icne, x_iclt, x_icge, x_icgt, x_icle, x_ifnull, x_ifnonnull, x_ldi, x_lda, x_sti, x_sta, x_iinc, x_gf, x_pf, x_ald, x_ast, x_aln, x_len, x_cl_, x_cv, x_cs, x_rc, x_r0, x_isT, x_oi, x_rv, x_ri, x_ra, Value.category, t120_0, t120_1, t120_4, t120_5, t120_6, t120_9, t120_10, t120_13, t120_14, t120_15, t120_18, t120_21, t120_22, t120_23, t120_24, t120_25, t120_28, t120_29, t120_32, t120_35, t120_36, t120_39, t120_40, t120_41, t120_42, t120_43, t120_44, t120_47, t120_50, t120_51, t120_52, t120_53, t120_54, t120_57, t120_58, t120_59, t120_61, t120_64, t120_65, t120_66, t120_67, t120_70, t120_71, t120_72, t120_74, t120_77, t120_79, t120_80, t120_83, t120_86, t120_87, t120_89, t120_91, t120_94, t120_97, t120_98, t120_99, t120_100, t120_103, t120_104, t120_105, t120_106, t120_108, t120_110, t120_112, t120_115, t120_117, t120_120, t120_121, t120_123, t120_124, t120_127, t120_129, t120_131, t120_132, t120_134, t120_135, t120_136, t120_137, t120_139, t120_140, t120_143, t120_145, t120_147, t120_148, t120_150, t120_151, t120_152, t120_153, t120_154, t120_155, t120_157, t120_159, t120_162, t120_164, t120_166, t120_167, t120_170, t120_172, t120_175, t120_178, t120_179, t120_182, t120_183, lk_s, hp_get, hp_set, uH_at, uH_ne, uH_upd, uH_swap, iZ_add, iZ_sub, iZ_mul, iZ_neg, iZ_lt, iZ_le, iZ_eq, iZ_div, iZ_of, ix_Z, gZ_map, gZ_mapI, gZ_map', le_0, le_s, sZ_map, sZ_len, bZ_0, bZ_inj, bZ_t, bZ_f, nr_i, nr_0, nr_1, nr_b, ft_i, ft_b, ft_0, ft_1, zl_0, zl_1, zl_2, zl_4, zl_7, zl_26, zl_44, zl_100, mF_len, mg_0, mg_1, mg_2, mg_3, mg_4, mg_5, mg_6, mg_7, mg_8, mg_9, mg_10, mg_11, mg_12, mg_13, mg_14, mg_15, mg_16, mg_17, mg_18, mg_19, mg_20, mg_21, mg_22, mg_23, mg_24, mg_25, mg_26, mg_27, mg_28, mg_29, mg_30, mg_31, mg_32, mg_33, mg_34, mg_35, mg_36, mg_37, mg_38, ms_0, ms_1, ms_2, ms_13, ms_14, ms_15, ms_16, ms_21, ms_22, ms_23, ms_24, ms_28, ms_36, ms_37, ms_38, st_at, st_ne, st_st, st_swap, l0, l1, l2, l3, l4, hm, h3, b3, b4, b6, b7, mm, -List.filter_filter, -List.getElem?_map, -List.getD_eq_getElem?_getD]
      have Y2 := x119 d hN h j l (by omega) (by omega) lr.1 lr.2
      cases hl : litB (cl Ds j.toNat).1 l with
      | false =>
        rw [if_pos (Or.inr (Or.inr rfl))]
        rw [hl, bZ_f] at Y2
        refine Gx.fin 80 (Y1.and Y2) (fun C mm => ?_)
        obtain ⟨mm1, mm2⟩ := mm
        simp (disch := first | (refine c1_id ?_; assumption) | (refine c1_st rfl ?_; repeat (first | assumption | refine c1_st rfl ?_)) | omega) [nx_l, nx_r, nx_n, x_st, x_push, x_bin, x_div, x_un, x_dup, x_pop, x_dup2, x_goto, x_ifeq, x_ifne, x_iflt, x_ifge, x_ifgt, x_ifle, x_iceq, x_icne, x_iclt, x_icge, x_icgt, x_icle, x_ifnull, x_ifnonnull, x_ldi, x_lda, x_sti, x_sta, x_iinc, x_gf, x_pf, x_ald, x_ast, x_aln, x_len, x_cl_, x_cv, x_cs, x_rc, x_r0, x_isT, x_oi, x_rv, x_ri, x_ra, Value.category, t120_0, t120_1, t120_4, t120_5, t120_6, t120_9, t120_10, t120_13, t120_14, t120_15, t120_18, t120_21, t120_22, t120_23, t120_24, t120_25, t120_28, t120_29, t120_32, t120_35, t120_36, t120_39, t120_40, t120_41, t120_42, t120_43, t120_44, t120_47, t120_50, t120_51, t120_52, t120_53, t120_54, t120_57, t120_58, t120_59, t120_61, t120_64, t120_65, t120_66, t120_67, t120_70, t120_71, t120_72, t120_74, t120_77, t120_79, t120_80, t120_83, t120_86, t120_87, t120_89, t120_91, t120_94, t120_97, t120_98, t120_99, t120_100, t120_103, t120_104, t120_105, t120_106, t120_108, t120_110, t120_112, t120_115, t120_117, t120_120, t120_121, t120_123, t120_124, t120_127, t120_129, t120_131, t120_132, t120_134, t120_135, t120_136, t120_137, t120_139, t120_140, t120_143, t120_145, t120_147, t120_148, t120_150, t120_151, t120_152, t120_153, t120_154, t120_155, t120_157, t120_159, t120_162, t120_164, t120_166, t120_167, t120_170, t120_172, t120_175, t120_178, t120_179, t120_182, t120_183, lk_s, hp_get, hp_set, uH_at, uH_ne, uH_upd, uH_swap, iZ_add, iZ_sub, iZ_mul, iZ_neg, iZ_lt, iZ_le, iZ_eq, iZ_div, iZ_of, ix_Z, gZ_map, gZ_mapI, gZ_map', le_0, le_s, sZ_map, sZ_len, bZ_0, bZ_inj, bZ_t, bZ_f, nr_i, nr_0, nr_1, nr_b, ft_i, ft_b, ft_0, ft_1, zl_0, zl_1, zl_2, zl_4, zl_7, zl_26, zl_44, zl_100, mF_len, mg_0, mg_1, mg_2, mg_3, mg_4, mg_5, mg_6, mg_7, mg_8, mg_9, mg_10, mg_11, mg_12, mg_13, mg_14, mg_15, mg_16, mg_17, mg_18, mg_19, mg_20, mg_21, mg_22, mg_23, mg_24, mg_25, mg_26, mg_27, mg_28, mg_29, mg_30, mg_31, mg_32, mg_33, mg_34, mg_35, mg_36, mg_37, mg_38, ms_0, ms_1, ms_2, ms_13, ms_14, ms_15, ms_16, ms_21, ms_22, ms_23, ms_24, ms_28, ms_36, ms_37, ms_38, st_at, st_ne, st_st, st_swap, l0, l1, l2, l3, l4, l5, hm, h3, b3, b4, b6, b7, mm1, mm2, -List.filter_filter, -List.getElem?_map, -List.getD_eq_getElem?_getD]
      | true =>
        rw [if_neg (fun z => by rcases z with z | z | z; exact b6 z; exact b7 z; cases z), if_pos rfl]
        rw [hl, bZ_t] at Y2
        refine Gx.fin 80 (Y1.and Y2) (fun C mm => ?_)
        obtain ⟨mm1, mm2⟩ := mm
        simp (disch := first | (refine c1_id ?_; assumption) | (refine c1_st rfl ?_; repeat (first | assumption | refine c1_st rfl ?_)) | omega) [nx_l, nx_r, nx_n, x_st, x_push, x_bin, x_div, x_un, x_dup, x_pop, x_dup2, x_goto, x_ifeq, x_ifne, x_iflt, x_ifge, x_ifgt, x_ifle, x_iceq, x_icne, x_iclt, x_icge, x_icgt, x_icle, x_ifnull, x_ifnonnull, x_ldi, x_lda, x_sti, x_sta, x_iinc, x_gf, x_pf, x_ald, x_ast, x_aln, x_len, x_cl_, x_cv, x_cs, x_rc, x_r0, x_isT, x_oi, x_rv, x_ri, x_ra, Value.category, t120_0, t120_1, t120_4, t120_5, t120_6, t120_9, t120_10, t120_13, t120_14, t120_15, t120_18, t120_21, t120_22, t120_23, t120_24, t120_25, t120_28, t120_29, t120_32, t120_35, t120_36, t120_39, t120_40, t120_41, t120_42, t120_43, t120_44, t120_47, t120_50, t120_51, t120_52, t120_53, t120_54, t120_57, t120_58, t120_59, t120_61, t120_64, t120_65, t120_66, t120_67, t120_70, t120_71, t120_72, t120_74, t120_77, t120_79, t120_80, t120_83, t120_86, t120_87, t120_89, t120_91, t120_94, t120_97, t120_98, t120_99, t120_100, t120_103, t120_104, t120_105, t120_106, t120_108, t120_110, t120_112, t120_115, t120_117, t120_120, t120_121, t120_123, t120_124, t120_127, t120_129, t120_131, t120_132, t120_134, t120_135, t120_136, t120_137, t120_139, t120_140, t120_143, t120_145, t120_147, t120_148, t120_150, t120_151, t120_152, t120_153, t120_154, t120_155, t120_157, t120_159, t120_162, t120_164, t120_166, t120_167, t120_170, t120_172, t120_175, t120_178, t120_179, t120_182, t120_183, lk_s, hp_get, hp_set, uH_at, uH_ne, uH_upd, uH_swap, iZ_add, iZ_sub, iZ_mul, iZ_neg, iZ_lt, iZ_le, iZ_eq, iZ_div, iZ_of, ix_Z, gZ_map, gZ_mapI, gZ_map', le_0, le_s, sZ_map, sZ_len, bZ_0, bZ_inj, bZ_t, bZ_f, nr_i, nr_0, nr_1, nr_b, ft_i, ft_b, ft_0, ft_1, zl_0, zl_1, zl_2, zl_4, zl_7, zl_26, zl_44, zl_100, mF_len, mg_0, mg_1, mg_2, mg_3, mg_4, mg_5, mg_6, mg_7, mg_8, mg_9, mg_10, mg_11, mg_12, mg_13, mg_14, mg_15, mg_16, mg_17, mg_18, mg_19, mg_20, mg_21, mg_22, mg_23, mg_24, mg_25, mg_26, mg_27, mg_28, mg_29, mg_30, mg_31, mg_32, mg_33, mg_34, mg_35, mg_36, mg_37, mg_38, ms_0, ms_1, ms_2, ms_13, ms_14, ms_15, ms_16, ms_21, ms_22, ms_23, ms_24, ms_28, ms_36, ms_37, ms_38, st_at, st_ne, st_st, st_swap, l0, l1, l2, l3, l4, l5, hm, h3, b3, b4, b6, b7, mm1, mm2, -List.filter_filter, -List.getElem?_map, -List.getD_eq_getElem?_getD]
    · rw [if_pos rfl]
      have Y2 := x119 d hN h i l (by omega) b4 lr.1 lr.2
      refine Gx.fin 80 (Y1.and Y2) (fun C mm => ?_)
      obtain ⟨mm1, mm2⟩ := mm
      simp (disch := first | (refine c1_id ?_; assumption) | (refine c1_st rfl ?_; repeat (first | assumption | refine c1_st rfl ?_)) | omega) [nx_l, nx_r, nx_n, x_st, x_push, x_bin, x_div, x_un, x_dup, x_pop, x_dup2, x_goto, x_ifeq, x_ifne, x_iflt, x_ifge, x_ifgt, x_ifle, x_iceq, x_icne, x_iclt, x_icge, x_icgt, x_icle, x_ifnull, x_ifnonnull, x_ldi, x_lda, x_sti, x_sta, x_iinc, x_gf, x_pf, x_ald, x_ast, x_aln, x_len, x_cl_, x_cv, x_cs, x_rc, x_r0, x_isT, x_oi, x_rv, x_ri, x_ra, Value.category, t120_0, t120_1, t120_4, t120_5, t120_6, t120_9, t120_10, t120_13, t120_14, t120_15, t120_18, t120_21, t120_22, t120_23, t120_24, t120_25, t120_28, t120_29, t120_32, t120_35, t120_36, t120_39, t120_40, t120_41, t120_42, t120_43, t120_44, t120_47, t120_50, t120_51, t120_52, t120_53, t120_54, t120_57, t120_58, t120_59, t120_61, t120_64, t120_65, t120_66, t120_67, t120_70, t120_71, t120_72, t120_74, t120_77, t120_79, t120_80, t120_83, t120_86, t120_87, t120_89, t120_91, t120_94, t120_97, t120_98, t120_99, t120_100, t120_103, t120_104, t120_105, t120_106, t120_108, t120_110, t120_112, t120_115, t120_117, t120_120, t120_121, t120_123, t120_124, t120_127, t120_129, t120_131, t120_132, t120_134, t120_135, t120_136, t120_137, t120_139, t120_140, t120_143, t120_145, t120_147, t120_148, t120_150, t120_151, t120_152, t120_153, t120_154, t120_155, t120_157, t120_159, t120_162, t120_164, t120_166, t120_167, t120_170, t120_172, t120_175, t120_178, t120_179, t120_182, t120_183, lk_s, hp_get, hp_set, uH_at, uH_ne, uH_upd, uH_swap, iZ_add, iZ_sub, iZ_mul, iZ_neg, iZ_lt, iZ_le, iZ_eq, iZ_div, iZ_of, ix_Z, gZ_map, gZ_mapI, gZ_map', le_0, le_s, sZ_map, sZ_len, bZ_0, bZ_inj, bZ_t, bZ_f, nr_i, nr_0, nr_1, nr_b, ft_i, ft_b, ft_0, ft_1, zl_0, zl_1, zl_2, zl_4, zl_7, zl_26, zl_44, zl_100, mF_len, mg_0, mg_1, mg_2, mg_3, mg_4, mg_5, mg_6, mg_7, mg_8, mg_9, mg_10, mg_11, mg_12, mg_13, mg_14, mg_15, mg_16, mg_17, mg_18, mg_19, mg_20, mg_21, mg_22, mg_23, mg_24, mg_25, mg_26, mg_27, mg_28, mg_29, mg_30, mg_31, mg_32, mg_33, mg_34, mg_35, mg_36, mg_37, mg_38, ms_0, ms_1, ms_2, ms_13, ms_14, ms_15, ms_16, ms_21, ms_22, ms_23, ms_24, ms_28, ms_36, ms_37, ms_38, st_at, st_ne, st_st, st_swap, l0, l1, l2, l3, l4, l5, hm, h3, b3, b4, mm1, mm2, -List.filter_filter, -List.getElem?_map, -List.getD_eq_getElem?_getD]
    · rw [if_neg (by decide), if_pos rfl]
      refine Gx.fin 80 Y1 (fun C mm => ?_)
      simp (disch := first | (refine c1_id ?_; assumption) | (refine c1_st rfl ?_; repeat (first | assumption | refine c1_st rfl ?_)) | omega) [nx_l, nx_r, nx_n, x_st, x_push, x_bin, x_div, x_un, x_dup, x_pop, x_dup2, x_goto, x_ifeq, x_ifne, x_iflt, x_ifge, x_ifgt, x_ifle, x_iceq, x_icne, x_iclt, x_icge, x_icgt, x_icle, x_ifnull, x_ifnonnull, x_ldi, x_lda, x_sti, x_sta, x_iinc, x_gf, x_pf, x_ald, x_ast, x_aln, x_len, x_cl_, x_cv, x_cs, x_rc, x_r0, x_isT, x_oi, x_rv, x_ri, x_ra, Value.category, t120_0, t120_1, t120_4, t120_5, t120_6, t120_9, t120_10, t120_13, t120_14, t120_15, t120_18, t120_21, t120_22, t120_23, t120_24, t120_25, t120_28, t120_29, t120_32, t120_35, t120_36, t120_39, t120_40, t120_41, t120_42, t120_43, t120_44, t120_47, t120_50, t120_51, t120_52, t120_53, t120_54, t120_57, t120_58, t120_59, t120_61, t120_64, t120_65, t120_66, t120_67, t120_70, t120_71, t120_72, t120_74, t120_77, t120_79, t120_80, t120_83, t120_86, t120_87, t120_89, t120_91, t120_94, t120_97, t120_98, t120_99, t120_100, t120_103, t120_104, t120_105, t120_106, t120_108, t120_110, t120_112, t120_115, t120_117, t120_120, t120_121, t120_123, t120_124, t120_127, t120_129, t120_131, t120_132, t120_134, t120_135, t120_136, t120_137, t120_139, t120_140, t120_143, t120_145, t120_147, t120_148, t120_150, t120_151, t120_152, t120_153, t120_154, t120_155, t120_157, t120_159, t120_162, t120_164, t120_166, t120_167, t120_170, t120_172, t120_175, t120_178, t120_179, t120_182, t120_183, lk_s, hp_get, hp_set, uH_at, uH_ne, uH_upd, uH_swap, iZ_add, iZ_sub, iZ_mul, iZ_neg, iZ_lt, iZ_le, iZ_eq, iZ_div, iZ_of, ix_Z, gZ_map, gZ_mapI, gZ_map', le_0, le_s, sZ_map, sZ_len, bZ_0, bZ_inj, bZ_t, bZ_f, nr_i, nr_0, nr_1, nr_b, ft_i, ft_b, ft_0, ft_1, zl_0, zl_1, zl_2, zl_4, zl_7, zl_26, zl_44, zl_100, mF_len, mg_0, mg_1, mg_2, mg_3, mg_4, mg_5, mg_6, mg_7, mg_8, mg_9, mg_10, mg_11, mg_12, mg_13, mg_14, mg_15, mg_16, mg_17, mg_18, mg_19, mg_20, mg_21, mg_22, mg_23, mg_24, mg_25, mg_26, mg_27, mg_28, mg_29, mg_30, mg_31, mg_32, mg_33, mg_34, mg_35, mg_36, mg_37, mg_38, ms_0, ms_1, ms_2, ms_13, ms_14, ms_15, ms_16, ms_21, ms_22, ms_23, ms_24, ms_28, ms_36, ms_37, ms_38, st_at, st_ne, st_st, st_swap, l0, l1, l2, l3, l4, l5, hm, h3, b3, b4, mm, -List.filter_filter, -List.getElem?_map, -List.getD_eq_getElem?_getD]
    · rw [if_neg (by decide), if_neg (by decide)]
      by_cases b6 : j < 0
      · rw [if_pos (Or.inl b6)]
        refine Gx.fin 80 Y1 (fun C mm => ?_)
        simp (disch := first | (refine c1_id ?_; assumption) | (refine c1_st rfl ?_; repeat (first | assumption | refine c1_st rfl ?_)) | omega) [nx_l, nx_r, nx_n, x_st, x_push, x_bin, x_div, x_un, x_dup, x_pop, x_dup2, x_goto, x_ifeq, x_ifne, x_iflt, x_ifge, x_ifgt, x_ifle, x_iceq, x_icne, x_iclt, x_icge, x_icgt, x_icle, x_ifnull, x_ifnonnull, x_ldi, x_lda, x_sti, x_sta, x_iinc, x_gf, x_pf, x_ald, x_ast, x_aln, x_len, x_cl_, x_cv, x_cs, x_rc, x_r0, x_isT, x_oi, x_rv, x_ri, x_ra, Value.category, t120_0, t120_1, t120_4, t120_5, t120_6, t120_9, t120_10, t120_13, t120_14, t120_15, t120_18, t120_21, t120_22, t120_23, t120_24, t120_25, t120_28, t120_29, t120_32, t120_35, t120_36, t120_39, t120_40, t120_41, t120_42, t120_43, t120_44, t120_47, t120_50, t120_51, t120_52, t120_53, t120_54, t120_57, t120_58, t120_59, t120_61, t120_64, t120_65, t120_66, t120_67, t120_70, t120_71, t120_72, t120_74, t120_77, t120_79, t120_80, t120_83, t120_86, t120_87, t120_89, t120_91, t120_94, t120_97, t120_98, t120_99, t120_100, t120_103, t120_104, t120_105, t120_106, t120_108, t120_110, t120_112, t120_115, t120_117, t120_120, t120_121, t120_123, t120_124, t120_127, t120_129, t120_131, t120_132, t120_134, t120_135, t120_136, t120_137, t120_139, t120_140, t120_143, t120_145, t120_147, t120_148, t120_150, t120_151, t120_152, t120_153, t120_154, t120_155, t120_157, t120_159, t120_162, t120_164, t120_166, t120_167, t120_170, t120_172, t120_175, t120_178, t120_179, t120_182, t120_183, lk_s, hp_get, hp_set, uH_at, uH_ne, uH_upd, uH_swap, iZ_add, iZ_sub, iZ_mul, iZ_neg, iZ_lt, iZ_le, iZ_eq, iZ_div, iZ_of, ix_Z, gZ_map, gZ_mapI, gZ_map', le_0, le_s, sZ_map, sZ_len, bZ_0, bZ_inj, bZ_t, bZ_f, nr_i, nr_0, nr_1, nr_b, ft_i, ft_b, ft_0, ft_1, zl_0, zl_1, zl_2, zl_4, zl_7, zl_26, zl_44, zl_100, mF_len, mg_0, mg_1, mg_2, mg_3, mg_4, mg_5, mg_6, mg_7, mg_8, mg_9, mg_10, mg_11, mg_12, mg_13, mg_14, mg_15, mg_16, mg_17, mg_18, mg_19, mg_20, mg_21, mg_22, mg_23, mg_24, mg_25, mg_26, mg_27, mg_28, mg_29, mg_30, mg_31, mg_32, mg_33, mg_34, mg_35, mg_36, mg_37, mg_38, ms_0, ms_1, ms_2, ms_13, ms_14, ms_15, ms_16, ms_21, ms_22, ms_23, ms_24, ms_28, ms_36, ms_37, ms_38, st_at, st_ne, st_st, st_swap, l0, l1, l2, l3, l4, hm, h3, b3, b4, b6, mm, -List.filter_filter, -List.getElem?_map, -List.getD_eq_getElem?_getD]
      by_cases b7 : (Ds.length : Int) ≤ j
      · rw [if_pos (Or.inr (Or.inl b7))]
        refine Gx.fin 80 Y1 (fun C mm => ?_)
        simp (disch := first | (refine c1_id ?_; assumption) | (refine c1_st rfl ?_; repeat (first | assumption | refine c1_st rfl ?_)) | omega) [nx_l, nx_r, nx_n, x_st, x_push, x_bin, x_div, x_un, x_dup, x_pop, x_dup2, x_goto, x_ifeq, x_ifne, x_iflt, x_ifge, x_ifgt, x_ifle, x_iceq, x_icne, x_iclt, x_icge, x_icgt, x_icle, x_ifnull, x_ifnonnull, x_ldi, x_lda, x_sti, x_sta, x_iinc, x_gf, x_pf, x_ald, x_ast, x_aln, x_len, x_cl_, x_cv, x_cs, x_rc, x_r0, x_isT, x_oi, x_rv, x_ri, x_ra, Value.category, t120_0, t120_1, t120_4, t120_5, t120_6, t120_9, t120_10, t120_13, t120_14, t120_15, t120_18, t120_21, t120_22, t120_23, t120_24, t120_25, t120_28, t120_29, t120_32, t120_35, t120_36, t120_39, t120_40, t120_41, t120_42, t120_43, t120_44, t120_47, t120_50, t120_51, t120_52, t120_53, t120_54, t120_57, t120_58, t120_59, t120_61, t120_64, t120_65, t120_66, t120_67, t120_70, t120_71, t120_72, t120_74, t120_77, t120_79, t120_80, t120_83, t120_86, t120_87, t120_89, t120_91, t120_94, t120_97, t120_98, t120_99, t120_100, t120_103, t120_104, t120_105, t120_106, t120_108, t120_110, t120_112, t120_115, t120_117, t120_120, t120_121, t120_123, t120_124, t120_127, t120_129, t120_131, t120_132, t120_134, t120_135, t120_136, t120_137, t120_139, t120_140, t120_143, t120_145, t120_147, t120_148, t120_150, t120_151, t120_152, t120_153, t120_154, t120_155, t120_157, t120_159, t120_162, t120_164, t120_166, t120_167, t120_170, t120_172, t120_175, t120_178, t120_179, t120_182, t120_183, lk_s, hp_get, hp_set, uH_at, uH_ne, uH_upd, uH_swap, iZ_add, iZ_sub, iZ_mul, iZ_neg, iZ_lt, iZ_le, iZ_eq, iZ_div, iZ_of, ix_Z, gZ_map, gZ_mapI, gZ_map', le_0, le_s, sZ_map, sZ_len, bZ_0, bZ_inj, bZ_t, bZ_f, nr_i, nr_0, nr_1, nr_b, ft_i, ft_b, ft_0, ft_1, zl_0, zl_1, zl_2, zl_4, zl_7, zl_26, zl_44, zl_100, mF_len, mg_0, mg_1, mg_2, mg_3, mg_4, mg_5, mg_6, mg_7, mg_8, mg_9, mg_10, mg_11, mg_12, mg_13, mg_14, mg_15, mg_16, mg_17, mg_18, mg_19, mg_20, mg_21, mg_22, mg_23, mg_24, mg_25, mg_26, mg_27, mg_28, mg_29, mg_30, mg_31, mg_32, mg_33, mg_34, mg_35, mg_36, mg_37, mg_38, ms_0, ms_1, ms_2, ms_13, ms_14, ms_15, ms_16, ms_21, ms_22, ms_23, ms_24, ms_28, ms_36, ms_37, ms_38, st_at, st_ne, st_st, st_swap, l0, l1, l2, l3, l4, hm, h3, b3, b4, b6, b7, mm, -List.filter_filter, -List.getElem?_map, -List.getD_eq_getElem?_getD]
      have Y2 := x119 d hN h j l (by omega) (by omega) lr.1 lr.2
      cases hl : litB (cl Ds j.toNat).1 l with
      | false =>
        rw [if_pos (Or.inr (Or.inr rfl))]
        rw [hl, bZ_f] at Y2
        refine Gx.fin 80 (Y1.and Y2) (fun C mm => ?_)
        obtain ⟨mm1, mm2⟩ := mm
        simp (disch := first | (refine c1_id ?_; assumption) | (refine c1_st rfl ?_; repeat (first | assumption | refine c1_st rfl ?_)) | omega) [nx_l, nx_r, nx_n, x_st, x_push, x_bin, x_div, x_un, x_dup, x_pop, x_dup2, x_goto, x_ifeq, x_ifne, x_iflt, x_ifge, x_ifgt, x_ifle, x_iceq, x_icne, x_iclt, x_icge, x_icgt, x_icle, x_ifnull, x_ifnonnull, x_ldi, x_lda, x_sti, x_sta, x_iinc, x_gf, x_pf, x_ald, x_ast, x_aln, x_len, x_cl_, x_cv, x_cs, x_rc, x_r0, x_isT, x_oi, x_rv, x_ri, x_ra, Value.category, t120_0, t120_1, t120_4, t120_5, t120_6, t120_9, t120_10, t120_13, t120_14, t120_15, t120_18, t120_21, t120_22, t120_23, t120_24, t120_25, t120_28, t120_29, t120_32, t120_35, t120_36, t120_39, t120_40, t120_41, t120_42, t120_43, t120_44, t120_47, t120_50, t120_51, t120_52, t120_53, t120_54, t120_57, t120_58, t120_59, t120_61, t120_64, t120_65, t120_66, t120_67, t120_70, t120_71, t120_72, t120_74, t120_77, t120_79, t120_80, t120_83, t120_86, t120_87, t120_89, t120_91, t120_94, t120_97, t120_98, t120_99, t120_100, t120_103, t120_104, t120_105, t120_106, t120_108, t120_110, t120_112, t120_115, t120_117, t120_120, t120_121, t120_123, t120_124, t120_127, t120_129, t120_131, t120_132, t120_134, t120_135, t120_136, t120_137, t120_139, t120_140, t120_143, t120_145, t120_147, t120_148, t120_150, t120_151, t120_152, t120_153, t120_154, t120_155, t120_157, t120_159, t120_162, t120_164, t120_166, t120_167, t120_170, t120_172, t120_175, t120_178, t120_179, t120_182, t120_183, lk_s, hp_get, hp_set, uH_at, uH_ne, uH_upd, uH_swap, iZ_add, iZ_sub, iZ_mul, iZ_neg, iZ_lt, iZ_le, iZ_eq, iZ_div, iZ_of, ix_Z, gZ_map, gZ_mapI, gZ_map', le_0, le_s, sZ_map, sZ_len, bZ_0, bZ_inj, bZ_t, bZ_f, nr_i, nr_0, nr_1, nr_b, ft_i, ft_b, ft_0, ft_1, zl_0, zl_1, zl_2, zl_4, zl_7, zl_26, zl_44, zl_100, mF_len, mg_0, mg_1, mg_2, mg_3, mg_4, mg_5, mg_6, mg_7, mg_8, mg_9, mg_10, mg_11, mg_12, mg_13, mg_14, mg_15, mg_16, mg_17, mg_18, mg_19, mg_20, mg_21, mg_22, mg_23, mg_24, mg_25, mg_26, mg_27, mg_28, mg_29, mg_30, mg_31, mg_32, mg_33, mg_34, mg_35, mg_36, mg_37, mg_38, ms_0, ms_1, ms_2, ms_13, ms_14, ms_15, ms_16, ms_21, ms_22, ms_23, ms_24, ms_28, ms_36, ms_37, ms_38, st_at, st_ne, st_st, st_swap, l0, l1, l2, l3, l4, l5, hm, h3, b3, b4, b6, b7, mm1, mm2, -List.filter_filter, -List.getElem?_map, -List.getD_eq_getElem?_getD]
      | true => exact absurd ⟨rfl, by omega, b4, hk, by omega, by omega, hl⟩ hn
theorem m120b (d : Nat) (hN : 53 ≤ N) (h : RS w m x Ds T U) (i k j l p : Int) (kr : -2147483648 ≤ k ∧ k < 2147483648) (lr : -2147483648 ≤ l ∧ l < 2147483648) (pr : -2147483648 ≤ p ∧ p < 2147483648) (i0 : 0 ≤ i) (i1 : i < Ds.length) (hk : litB (cl Ds i.toNat).1 k = true) (j0 : 0 ≤ j) (j1 : j < Ds.length) (hl : litB (cl Ds j.toNat).1 l = true) :
    ∃ (w' : Nat → xC) (x' : Nat → List Int), FrR w w' ∧ RS w' m x' Ds T U ∧ Xc (d + 3) 120 [.ref 30, .int (iZ 3), .int (iZ i), .int (iZ k), .int (iZ j), .int (iZ l), .int (iZ p)] (hp w N) (some (.int (iZ (bZ (thB Ds T 3 i k j l p)))), hp w' N) := by
  obtain ⟨h1, h2, h3, h4, h5, h6, h7, h8, h9, h10, h11⟩ := id h
  have hm := h1.1
  have hD := h.rd j0 j1
  obtain ⟨S, t1, t2, t3, t4, X3⟩ := A110 (d + 1) hN h1 h2 hD 44 26 (Or.inr rfl) (Or.inr rfl)
  have R1 : RO (uH w 45 (cI 0 S)) m (ux x 45 S) := h1.set (j := 45) (by decide) t1
  have F1 : FrR w (uH w 45 (cI 0 S)) := (FrR.rf w).up (by decide) (by decide)
  have S1 : RS (uH w 45 (cI 0 S)) m (ux x 45 S) Ds T U := h.mv R1 ⟨t2, h2.2⟩ (fun j j0 j1 => ux_ne (by omega)) rfl h8 h9 h10 h11
  refine ⟨_, _, F1, S1, Xc.of rfl (by simp [lg_sl, Value.category]) ?_ (h1.le R1 (fun j hj => by rw [F1 j hj]; exact Nat.le_refl _))⟩
  have hc : c1 (lv_args 0 [.ref 30, .int (iZ 3), .int (iZ i), .int (iZ k), .int (iZ j), .int (iZ l), .int (iZ p)]) := by simp [c1, lv_args, Value.category]
  have l0 : x_lk (lv_args 0 [.ref 30, .int (iZ 3), .int (iZ i), .int (iZ k), .int (iZ j), .int (iZ l), .int (iZ p)]) 0 = some (.ref 30) := rfl
  have l1 : x_lk (lv_args 0 [.ref 30, .int (iZ 3), .int (iZ i), .int (iZ k), .int (iZ j), .int (iZ l), .int (iZ p)]) 1 = some (.int (iZ 3)) := rfl
  have l2 : x_lk (lv_args 0 [.ref 30, .int (iZ 3), .int (iZ i), .int (iZ k), .int (iZ j), .int (iZ l), .int (iZ p)]) 2 = some (.int (iZ i)) := rfl
  have l3 : x_lk (lv_args 0 [.ref 30, .int (iZ 3), .int (iZ i), .int (iZ k), .int (iZ j), .int (iZ l), .int (iZ p)]) 3 = some (.int (iZ k)) := rfl
  have l4 : x_lk (lv_args 0 [.ref 30, .int (iZ 3), .int (iZ i), .int (iZ k), .int (iZ j), .int (iZ l), .int (iZ p)]) 4 = some (.int (iZ j)) := rfl
  have l5 : x_lk (lv_args 0 [.ref 30, .int (iZ 3), .int (iZ i), .int (iZ k), .int (iZ j), .int (iZ l), .int (iZ p)]) 5 = some (.int (iZ l)) := rfl
  have l6 : x_lk (lv_args 0 [.ref 30, .int (iZ 3), .int (iZ i), .int (iZ k), .int (iZ j), .int (iZ l), .int (iZ p)]) 6 = some (.int (iZ p)) := rfl
  generalize lv_args 0 [.ref 30, .int (iZ 3), .int (iZ i), .int (iZ k), .int (iZ j), .int (iZ l), .int (iZ p)] = lv at hc l0 l1 l2 l3 l4 l5 l6
  have Y1 := x119 (d + 1) hN h i k i0 i1 kr.1 kr.2
  have Y2 := x119 (d + 1) hN h j l j0 j1 lr.1 lr.2
  rw [hk, bZ_t] at Y1
  rw [hl, bZ_t] at Y2
  have b3 : ¬ i < 0 := by omega
  have b6 : ¬ j < 0 := by omega
  have b7 : ¬ (Ds.length : Int) ≤ j := by omega
  have hcs : (Ds.length : Int) ≤ 30 := by omega
  have g1 : ∀ res, Gx q_k120 (d + 2) 115 (lv, [], hp (uH w 45 (cI 0 S)) N) res → Gx q_k120 (d + 2) 0 (lv, [], hp w N) res := fun res hg => by
    refine Gx.run 80 ((Y1.and Y2).and X3) (fun C mm => ?_) hg
    obtain ⟨⟨mm1, mm2⟩, mm3⟩ := mm
    simp (disch := first | (refine c1_id ?_; assumption) | (refine c1_st rfl ?_; repeat (first | assumption | refine c1_st rfl ?_)) | omega) [nx_l, nx_r, nx_n, x_st, x_push, x_bin, x_div, x_un, x_dup, x_pop, x_dup2, x_goto, x_ifeq, x_ifne, x_iflt, x_ifge, x_ifgt, x_ifle, x_iceq, x_icne, x_iclt, x_icge, x_icgt, x_icle, x_ifnull, x_ifnonnull, x_ldi, x_lda, x_sti, x_sta, x_iinc, x_gf, x_pf, x_ald, x_ast, x_aln, x_len, x_cl_, x_cv, x_cs, x_rc, x_r0, x_isT, x_oi, x_rv, x_ri, x_ra, Value.category, t120_0, t120_1, t120_4, t120_5, t120_6, t120_9, t120_10, t120_13, t120_14, t120_15, t120_18, t120_21, t120_22, t120_23, t120_24, t120_25, t120_28, t120_29, t120_32, t120_35, t120_36, t120_39, t120_40, t120_41, t120_42, t120_43, t120_44, t120_47, t120_50, t120_51, t120_52, t120_53, t120_54, t120_57, t120_58, t120_59, t120_61, t120_64, t120_65, t120_66, t120_67, t120_70, t120_71, t120_72, t120_74, t120_77, t120_79, t120_80, t120_83, t120_86, t120_87, t120_89, t120_91, t120_94, t120_97, t120_98, t120_99, t120_100, t120_103, t120_104, t120_105, t120_106, t120_108, t120_110, t120_112, t120_115, t120_117, t120_120, t120_121, t120_123, t120_124, t120_127, t120_129, t120_131, t120_132, t120_134, t120_135, t120_136, t120_137, t120_139, t120_140, t120_143, t120_145, t120_147, t120_148, t120_150, t120_151, t120_152, t120_153, t120_154, t120_155, t120_157, t120_159, t120_162, t120_164, t120_166, t120_167, t120_170, t120_172, t120_175, t120_178, t120_179, t120_182, t120_183, lk_s, hp_get, hp_set, uH_at, uH_ne, uH_upd, uH_swap, iZ_add, iZ_sub, iZ_mul, iZ_neg, iZ_lt, iZ_le, iZ_eq, iZ_div, iZ_of, ix_Z, gZ_map, gZ_mapI, gZ_map', le_0, le_s, sZ_map, sZ_len, bZ_0, bZ_inj, bZ_t, bZ_f, nr_i, nr_0, nr_1, nr_b, ft_i, ft_b, ft_0, ft_1, zl_0, zl_1, zl_2, zl_4, zl_7, zl_26, zl_44, zl_100, mF_len, mg_0, mg_1, mg_2, mg_3, mg_4, mg_5, mg_6, mg_7, mg_8, mg_9, mg_10, mg_11, mg_12, mg_13, mg_14, mg_15, mg_16, mg_17, mg_18, mg_19, mg_20, mg_21, mg_22, mg_23, mg_24, mg_25, mg_26, mg_27, mg_28, mg_29, mg_30, mg_31, mg_32, mg_33, mg_34, mg_35, mg_36, mg_37, mg_38, ms_0, ms_1, ms_2, ms_13, ms_14, ms_15, ms_16, ms_21, ms_22, ms_23, ms_24, ms_28, ms_36, ms_37, ms_38, st_at, st_ne, st_st, st_swap, l0, l1, l2, l3, l4, l5, hm, h3, b3, i1, b6, b7, mm1, mm2, mm3, kdR, -List.filter_filter, -List.getElem?_map, -List.getD_eq_getElem?_getD]
  refine g1 _ ?_
  obtain ⟨w1, hw1⟩ : ∃ w1, w1 = uH w 45 (cI 0 S) := ⟨_, rfl⟩
  rw [← hw1] at R1 S1 ⊢
  obtain ⟨⟨a1, a2, a3, a4, a5, a6, a7, a8, a9⟩, gD, _⟩ := hD
  have hl' : 0 ≤ l ∧ l < (cl Ds j.toNat).1.length := by
    unfold litB at hl
    simpa using hl
  obtain ⟨D, hDe⟩ : ∃ D, D = (cl Ds j.toNat).1 := ⟨_, rfl⟩
  rw [← hDe] at a6 a7 a8 a9 gD hl' t3
  have lD : l.toNat < D.length := by omega
  have lDs : l.toNat < (shC D).length := by rw [shC_len]; exact lD
  have e7 := a8 l.toNat (by omega)
  have e8 := a8 (l.toNat + 1) (by omega)
  rw [show ((l.toNat : Nat) : Int) = l by omega] at e7
  rw [show 7 * j + ((l.toNat + 1 : Nat) : Int) = 7 * j + l + 1 by omega] at e8
  have es := stC_succ lD
  have em := stC_mono (C := D) (show l.toNat + 1 ≤ D.length by omega)
  rw [stC_all] at em
  have gD2 := gD.2.1
  have hT2 := (gD.shift _ (lC_mem lDs)).2.1
  have t3' : LD 44 (shC D) S := t3
  have hf2 : (44 : Int) + (flt (shC D)).length ≤ 88 := by
    rw [flt_shC, ren_len]
    omega
  have elen : (lC (shC D) l.toNat).2.length = (lC D l.toNat).2.length := by
    unfold shC
    rw [lC_map lD, litR_len]
  have h45 : w1 45 = cI 0 S := (R1.2 45 (by decide) (by decide)).1
  have h29 : w1 29 = cI 0 (x 29) := (R1.2 29 (by decide) (by decide)).1
  have hm1 := R1.1
  have pq : plQ p = if 100 ≤ p then p - 100 else p := rfl
  have ev : thB Ds T 3 i k j l p = decide (0 ≤ p ∧ 0 ≤ plQ p ∧ 44 + (stC D l.toNat : Int) + 1 + plQ p < 44 + (stC D (l.toNat + 1) : Int) ∧ 99 ≤ gZ S (44 + (stC D l.toNat : Int) + 1 + plQ p)) := by
    unfold thB
    rw [if_neg (by omega), if_neg (by decide), hk, if_neg (by decide), if_neg (by decide), if_neg (by decide), if_neg (fun z => by rcases z with z | z | z; exact b6 z; exact b7 z; rw [hl] at z; cases z), if_neg (by decide), ← hDe]
    unfold plB
    rw [Bool.eq_iff_iff, decide_eq_true_iff, decide_eq_true_iff]
    have key : ∀ q : Int, 0 ≤ q → 1 + q < (lC D l.toNat).2.length → (99 ≤ (lC D l.toNat).2.getD (1 + q).toNat 0 ↔ 99 ≤ gZ S (44 + (stC D l.toNat : Int) + 1 + q)) := fun q q0 q1 => by
      have at_ := (t3'.at (fr := 44) t1 hf2 lDs hT2 (i := (1 + q).toNat) (by omega)).2.2
      rw [stC_shC, show (44 : Int) + (stC D l.toNat : Int) + (((1 + q).toNat : Nat) : Int) = 44 + (stC D l.toNat : Int) + 1 + q by omega] at at_
      rw [at_]
      unfold shC
      rw [lC_map lD]
      show _ ↔ 99 ≤ (ren (fun v => v + 26) (lC D l.toNat).2).getD (1 + q).toNat 0
      rw [ren_getD (by omega)]
      have hmem := (gD.2.2 _ (lC_mem lD)).2.2 _ (getD_mem (l := (lC D l.toNat).2) (i := (1 + q).toNat) (by omega))
      split
      · omega
      · omega
    constructor
    · intro z
      have q0 : 0 ≤ plQ p := by rw [pq]; split <;> omega
      exact ⟨z.1, q0, by omega, (key _ q0 z.2.1).mp z.2.2⟩
    · intro z
      exact ⟨z.1, by omega, (key _ z.2.1 (by omega)).mpr z.2.2.2⟩
  rw [ev]
  by_cases p0 : p < 0
  · rw [decide_eq_false (by omega)]
    refine Gx.fin 80 Cs.tt (fun C _ => ?_)
    simp (disch := first | (refine c1_id ?_; assumption) | (refine c1_st rfl ?_; repeat (first | assumption | refine c1_st rfl ?_)) | omega) [nx_l, nx_r, nx_n, x_st, x_push, x_bin, x_div, x_un, x_dup, x_pop, x_dup2, x_goto, x_ifeq, x_ifne, x_iflt, x_ifge, x_ifgt, x_ifle, x_iceq, x_icne, x_iclt, x_icge, x_icgt, x_icle, x_ifnull, x_ifnonnull, x_ldi, x_lda, x_sti, x_sta, x_iinc, x_gf, x_pf, x_ald, x_ast, x_aln, x_len, x_cl_, x_cv, x_cs, x_rc, x_r0, x_isT, x_oi, x_rv, x_ri, x_ra, Value.category, t120_0, t120_1, t120_4, t120_5, t120_6, t120_9, t120_10, t120_13, t120_14, t120_15, t120_18, t120_21, t120_22, t120_23, t120_24, t120_25, t120_28, t120_29, t120_32, t120_35, t120_36, t120_39, t120_40, t120_41, t120_42, t120_43, t120_44, t120_47, t120_50, t120_51, t120_52, t120_53, t120_54, t120_57, t120_58, t120_59, t120_61, t120_64, t120_65, t120_66, t120_67, t120_70, t120_71, t120_72, t120_74, t120_77, t120_79, t120_80, t120_83, t120_86, t120_87, t120_89, t120_91, t120_94, t120_97, t120_98, t120_99, t120_100, t120_103, t120_104, t120_105, t120_106, t120_108, t120_110, t120_112, t120_115, t120_117, t120_120, t120_121, t120_123, t120_124, t120_127, t120_129, t120_131, t120_132, t120_134, t120_135, t120_136, t120_137, t120_139, t120_140, t120_143, t120_145, t120_147, t120_148, t120_150, t120_151, t120_152, t120_153, t120_154, t120_155, t120_157, t120_159, t120_162, t120_164, t120_166, t120_167, t120_170, t120_172, t120_175, t120_178, t120_179, t120_182, t120_183, lk_s, hp_get, hp_set, uH_at, uH_ne, uH_upd, uH_swap, iZ_add, iZ_sub, iZ_mul, iZ_neg, iZ_lt, iZ_le, iZ_eq, iZ_div, iZ_of, ix_Z, gZ_map, gZ_mapI, gZ_map', le_0, le_s, sZ_map, sZ_len, bZ_0, bZ_inj, bZ_t, bZ_f, nr_i, nr_0, nr_1, nr_b, ft_i, ft_b, ft_0, ft_1, zl_0, zl_1, zl_2, zl_4, zl_7, zl_26, zl_44, zl_100, mF_len, mg_0, mg_1, mg_2, mg_3, mg_4, mg_5, mg_6, mg_7, mg_8, mg_9, mg_10, mg_11, mg_12, mg_13, mg_14, mg_15, mg_16, mg_17, mg_18, mg_19, mg_20, mg_21, mg_22, mg_23, mg_24, mg_25, mg_26, mg_27, mg_28, mg_29, mg_30, mg_31, mg_32, mg_33, mg_34, mg_35, mg_36, mg_37, mg_38, ms_0, ms_1, ms_2, ms_13, ms_14, ms_15, ms_16, ms_21, ms_22, ms_23, ms_24, ms_28, ms_36, ms_37, ms_38, st_at, st_ne, st_st, st_swap, l0, l6, p0, -List.filter_filter, -List.getElem?_map, -List.getD_eq_getElem?_getD]
  · have X4 := m118 (d + 1) hN hm1 h45 t1 t2.2.1 (44 + (stC D l.toNat : Int)) (44 + (stC D (l.toNat + 1) : Int)) (plQ p) (by omega) (by omega) (by omega) (by omega) (by rw [pq]; split <;> omega) (by rw [pq]; split <;> omega)
    obtain ⟨v, hv⟩ : ∃ v : Int, v = if 0 ≤ plQ p ∧ 44 + (stC D l.toNat : Int) + 1 + plQ p < 44 + (stC D (l.toNat + 1) : Int) ∧ 99 ≤ gZ S (44 + (stC D l.toNat : Int) + 1 + plQ p) then 44 + (stC D l.toNat : Int) + 1 + plQ p else -1 := ⟨_, rfl⟩
    rw [← hv] at X4
    have vr : -1 ≤ v ∧ v < 1000 := by
      rw [hv]
      split <;> omega
    have vr1 : (-2147483648 : Int) ≤ v := by omega
    have vr2 : v < 2147483648 := by omega
    have gg : Gx q_k120 (d + 2) 115 (lv, [], hp w1 N) (some (.int (iZ (bZ (decide (0 ≤ v))))), hp w1 N) := by
      refine Gx.fin 120 X4 (fun C mm => ?_)
      by_cases p1 : p < 100
      · have e1 : plQ p = p := by rw [pq, if_neg (by omega)]
        rw [e1] at mm
        by_cases v0 : v < 0
        · rw [decide_eq_false (by omega)]
          simp (disch := first | (refine c1_id ?_; assumption) | (refine c1_st rfl ?_; repeat (first | assumption | refine c1_st rfl ?_)) | omega) [nx_l, nx_r, nx_n, x_st, x_push, x_bin, x_div, x_un, x_dup, x_pop, x_dup2, x_goto, x_ifeq, x_ifne, x_iflt, x_ifge, x_ifgt, x_ifle, x_iceq, x_icne, x_iclt, x_icge, x_icgt, x_icle, x_ifnull, x_ifnonnull, x_ldi, x_lda, x_sti, x_sta, x_iinc, x_gf, x_pf, x_ald, x_ast, x_aln, x_len, x_cl_, x_cv, x_cs, x_rc, x_r0, x_isT, x_oi, x_rv, x_ri, x_ra, Value.category, t120_0, t120_1, t120_4, t120_5, t120_6, t120_9, t120_10, t120_13, t120_14, t120_15, t120_18, t120_21, t120_22, t120_23, t120_24, t120_25, t120_28, t120_29, t120_32, t120_35, t120_36, t120_39, t120_40, t120_41, t120_42, t120_43, t120_44, t120_47, t120_50, t120_51, t120_52, t120_53, t120_54, t120_57, t120_58, t120_59, t120_61, t120_64, t120_65, t120_66, t120_67, t120_70, t120_71, t120_72, t120_74, t120_77, t120_79, t120_80, t120_83, t120_86, t120_87, t120_89, t120_91, t120_94, t120_97, t120_98, t120_99, t120_100, t120_103, t120_104, t120_105, t120_106, t120_108, t120_110, t120_112, t120_115, t120_117, t120_120, t120_121, t120_123, t120_124, t120_127, t120_129, t120_131, t120_132, t120_134, t120_135, t120_136, t120_137, t120_139, t120_140, t120_143, t120_145, t120_147, t120_148, t120_150, t120_151, t120_152, t120_153, t120_154, t120_155, t120_157, t120_159, t120_162, t120_164, t120_166, t120_167, t120_170, t120_172, t120_175, t120_178, t120_179, t120_182, t120_183, lk_s, hp_get, hp_set, uH_at, uH_ne, uH_upd, uH_swap, iZ_add, iZ_sub, iZ_mul, iZ_neg, iZ_lt, iZ_le, iZ_eq, iZ_div, iZ_of, ix_Z, gZ_map, gZ_mapI, gZ_map', le_0, le_s, sZ_map, sZ_len, bZ_0, bZ_inj, bZ_t, bZ_f, nr_i, nr_0, nr_1, nr_b, ft_i, ft_b, ft_0, ft_1, zl_0, zl_1, zl_2, zl_4, zl_7, zl_26, zl_44, zl_100, mF_len, mg_0, mg_1, mg_2, mg_3, mg_4, mg_5, mg_6, mg_7, mg_8, mg_9, mg_10, mg_11, mg_12, mg_13, mg_14, mg_15, mg_16, mg_17, mg_18, mg_19, mg_20, mg_21, mg_22, mg_23, mg_24, mg_25, mg_26, mg_27, mg_28, mg_29, mg_30, mg_31, mg_32, mg_33, mg_34, mg_35, mg_36, mg_37, mg_38, ms_0, ms_1, ms_2, ms_13, ms_14, ms_15, ms_16, ms_21, ms_22, ms_23, ms_24, ms_28, ms_36, ms_37, ms_38, st_at, st_ne, st_st, st_swap, l0, l4, l5, l6, p0, p1, hm1, h29, e7, e8, mm, v0, -List.filter_filter, -List.getElem?_map, -List.getD_eq_getElem?_getD]
        · rw [decide_eq_true (by omega)]
          simp (disch := first | (refine c1_id ?_; assumption) | (refine c1_st rfl ?_; repeat (first | assumption | refine c1_st rfl ?_)) | omega) [nx_l, nx_r, nx_n, x_st, x_push, x_bin, x_div, x_un, x_dup, x_pop, x_dup2, x_goto, x_ifeq, x_ifne, x_iflt, x_ifge, x_ifgt, x_ifle, x_iceq, x_icne, x_iclt, x_icge, x_icgt, x_icle, x_ifnull, x_ifnonnull, x_ldi, x_lda, x_sti, x_sta, x_iinc, x_gf, x_pf, x_ald, x_ast, x_aln, x_len, x_cl_, x_cv, x_cs, x_rc, x_r0, x_isT, x_oi, x_rv, x_ri, x_ra, Value.category, t120_0, t120_1, t120_4, t120_5, t120_6, t120_9, t120_10, t120_13, t120_14, t120_15, t120_18, t120_21, t120_22, t120_23, t120_24, t120_25, t120_28, t120_29, t120_32, t120_35, t120_36, t120_39, t120_40, t120_41, t120_42, t120_43, t120_44, t120_47, t120_50, t120_51, t120_52, t120_53, t120_54, t120_57, t120_58, t120_59, t120_61, t120_64, t120_65, t120_66, t120_67, t120_70, t120_71, t120_72, t120_74, t120_77, t120_79, t120_80, t120_83, t120_86, t120_87, t120_89, t120_91, t120_94, t120_97, t120_98, t120_99, t120_100, t120_103, t120_104, t120_105, t120_106, t120_108, t120_110, t120_112, t120_115, t120_117, t120_120, t120_121, t120_123, t120_124, t120_127, t120_129, t120_131, t120_132, t120_134, t120_135, t120_136, t120_137, t120_139, t120_140, t120_143, t120_145, t120_147, t120_148, t120_150, t120_151, t120_152, t120_153, t120_154, t120_155, t120_157, t120_159, t120_162, t120_164, t120_166, t120_167, t120_170, t120_172, t120_175, t120_178, t120_179, t120_182, t120_183, lk_s, hp_get, hp_set, uH_at, uH_ne, uH_upd, uH_swap, iZ_add, iZ_sub, iZ_mul, iZ_neg, iZ_lt, iZ_le, iZ_eq, iZ_div, iZ_of, ix_Z, gZ_map, gZ_mapI, gZ_map', le_0, le_s, sZ_map, sZ_len, bZ_0, bZ_inj, bZ_t, bZ_f, nr_i, nr_0, nr_1, nr_b, ft_i, ft_b, ft_0, ft_1, zl_0, zl_1, zl_2, zl_4, zl_7, zl_26, zl_44, zl_100, mF_len, mg_0, mg_1, mg_2, mg_3, mg_4, mg_5, mg_6, mg_7, mg_8, mg_9, mg_10, mg_11, mg_12, mg_13, mg_14, mg_15, mg_16, mg_17, mg_18, mg_19, mg_20, mg_21, mg_22, mg_23, mg_24, mg_25, mg_26, mg_27, mg_28, mg_29, mg_30, mg_31, mg_32, mg_33, mg_34, mg_35, mg_36, mg_37, mg_38, ms_0, ms_1, ms_2, ms_13, ms_14, ms_15, ms_16, ms_21, ms_22, ms_23, ms_24, ms_28, ms_36, ms_37, ms_38, st_at, st_ne, st_st, st_swap, l0, l4, l5, l6, p0, p1, hm1, h29, e7, e8, mm, v0, -List.filter_filter, -List.getElem?_map, -List.getD_eq_getElem?_getD]
      · have e1 : plQ p = p - 100 := by rw [pq, if_pos (by omega)]
        rw [e1] at mm
        by_cases v0 : v < 0
        · rw [decide_eq_false (by omega)]
          simp (disch := first | (refine c1_id ?_; assumption) | (refine c1_st rfl ?_; repeat (first | assumption | refine c1_st rfl ?_)) | omega) [nx_l, nx_r, nx_n, x_st, x_push, x_bin, x_div, x_un, x_dup, x_pop, x_dup2, x_goto, x_ifeq, x_ifne, x_iflt, x_ifge, x_ifgt, x_ifle, x_iceq, x_icne, x_iclt, x_icge, x_icgt, x_icle, x_ifnull, x_ifnonnull, x_ldi, x_lda, x_sti, x_sta, x_iinc, x_gf, x_pf, x_ald, x_ast, x_aln, x_len, x_cl_, x_cv, x_cs, x_rc, x_r0, x_isT, x_oi, x_rv, x_ri, x_ra, Value.category, t120_0, t120_1, t120_4, t120_5, t120_6, t120_9, t120_10, t120_13, t120_14, t120_15, t120_18, t120_21, t120_22, t120_23, t120_24, t120_25, t120_28, t120_29, t120_32, t120_35, t120_36, t120_39, t120_40, t120_41, t120_42, t120_43, t120_44, t120_47, t120_50, t120_51, t120_52, t120_53, t120_54, t120_57, t120_58, t120_59, t120_61, t120_64, t120_65, t120_66, t120_67, t120_70, t120_71, t120_72, t120_74, t120_77, t120_79, t120_80, t120_83, t120_86, t120_87, t120_89, t120_91, t120_94, t120_97, t120_98, t120_99, t120_100, t120_103, t120_104, t120_105, t120_106, t120_108, t120_110, t120_112, t120_115, t120_117, t120_120, t120_121, t120_123, t120_124, t120_127, t120_129, t120_131, t120_132, t120_134, t120_135, t120_136, t120_137, t120_139, t120_140, t120_143, t120_145, t120_147, t120_148, t120_150, t120_151, t120_152, t120_153, t120_154, t120_155, t120_157, t120_159, t120_162, t120_164, t120_166, t120_167, t120_170, t120_172, t120_175, t120_178, t120_179, t120_182, t120_183, lk_s, hp_get, hp_set, uH_at, uH_ne, uH_upd, uH_swap, iZ_add, iZ_sub, iZ_mul, iZ_neg, iZ_lt, iZ_le, iZ_eq, iZ_div, iZ_of, ix_Z, gZ_map, gZ_mapI, gZ_map', le_0, le_s, sZ_map, sZ_len, bZ_0, bZ_inj, bZ_t, bZ_f, nr_i, nr_0, nr_1, nr_b, ft_i, ft_b, ft_0, ft_1, zl_0, zl_1, zl_2, zl_4, zl_7, zl_26, zl_44, zl_100, mF_len, mg_0, mg_1, mg_2, mg_3, mg_4, mg_5, mg_6, mg_7, mg_8, mg_9, mg_10, mg_11, mg_12, mg_13, mg_14, mg_15, mg_16, mg_17, mg_18, mg_19, mg_20, mg_21, mg_22, mg_23, mg_24, mg_25, mg_26, mg_27, mg_28, mg_29, mg_30, mg_31, mg_32, mg_33, mg_34, mg_35, mg_36, mg_37, mg_38, ms_0, ms_1, ms_2, ms_13, ms_14, ms_15, ms_16, ms_21, ms_22, ms_23, ms_24, ms_28, ms_36, ms_37, ms_38, st_at, st_ne, st_st, st_swap, l0, l4, l5, l6, p0, p1, hm1, h29, e7, e8, mm, v0, -List.filter_filter, -List.getElem?_map, -List.getD_eq_getElem?_getD]
        · rw [decide_eq_true (by omega)]
          simp (disch := first | (refine c1_id ?_; assumption) | (refine c1_st rfl ?_; repeat (first | assumption | refine c1_st rfl ?_)) | omega) [nx_l, nx_r, nx_n, x_st, x_push, x_bin, x_div, x_un, x_dup, x_pop, x_dup2, x_goto, x_ifeq, x_ifne, x_iflt, x_ifge, x_ifgt, x_ifle, x_iceq, x_icne, x_iclt, x_icge, x_icgt, x_icle, x_ifnull, x_ifnonnull, x_ldi, x_lda, x_sti, x_sta, x_iinc, x_gf, x_pf, x_ald, x_ast, x_aln, x_len, x_cl_, x_cv, x_cs, x_rc, x_r0, x_isT, x_oi, x_rv, x_ri, x_ra, Value.category, t120_0, t120_1, t120_4, t120_5, t120_6, t120_9, t120_10, t120_13, t120_14, t120_15, t120_18, t120_21, t120_22, t120_23, t120_24, t120_25, t120_28, t120_29, t120_32, t120_35, t120_36, t120_39, t120_40, t120_41, t120_42, t120_43, t120_44, t120_47, t120_50, t120_51, t120_52, t120_53, t120_54, t120_57, t120_58, t120_59, t120_61, t120_64, t120_65, t120_66, t120_67, t120_70, t120_71, t120_72, t120_74, t120_77, t120_79, t120_80, t120_83, t120_86, t120_87, t120_89, t120_91, t120_94, t120_97, t120_98, t120_99, t120_100, t120_103, t120_104, t120_105, t120_106, t120_108, t120_110, t120_112, t120_115, t120_117, t120_120, t120_121, t120_123, t120_124, t120_127, t120_129, t120_131, t120_132, t120_134, t120_135, t120_136, t120_137, t120_139, t120_140, t120_143, t120_145, t120_147, t120_148, t120_150, t120_151, t120_152, t120_153, t120_154, t120_155, t120_157, t120_159, t120_162, t120_164, t120_166, t120_167, t120_170, t120_172, t120_175, t120_178, t120_179, t120_182, t120_183, lk_s, hp_get, hp_set, uH_at, uH_ne, uH_upd, uH_swap, iZ_add, iZ_sub, iZ_mul, iZ_neg, iZ_lt, iZ_le, iZ_eq, iZ_div, iZ_of, ix_Z, gZ_map, gZ_mapI, gZ_map', le_0, le_s, sZ_map, sZ_len, bZ_0, bZ_inj, bZ_t, bZ_f, nr_i, nr_0, nr_1, nr_b, ft_i, ft_b, ft_0, ft_1, zl_0, zl_1, zl_2, zl_4, zl_7, zl_26, zl_44, zl_100, mF_len, mg_0, mg_1, mg_2, mg_3, mg_4, mg_5, mg_6, mg_7, mg_8, mg_9, mg_10, mg_11, mg_12, mg_13, mg_14, mg_15, mg_16, mg_17, mg_18, mg_19, mg_20, mg_21, mg_22, mg_23, mg_24, mg_25, mg_26, mg_27, mg_28, mg_29, mg_30, mg_31, mg_32, mg_33, mg_34, mg_35, mg_36, mg_37, mg_38, ms_0, ms_1, ms_2, ms_13, ms_14, ms_15, ms_16, ms_21, ms_22, ms_23, ms_24, ms_28, ms_36, ms_37, ms_38, st_at, st_ne, st_st, st_swap, l0, l4, l5, l6, p0, p1, hm1, h29, e7, e8, mm, v0, -List.filter_filter, -List.getElem?_map, -List.getD_eq_getElem?_getD]
    have ed : decide (0 ≤ p ∧ 0 ≤ plQ p ∧ 44 + (stC D l.toNat : Int) + 1 + plQ p < 44 + (stC D (l.toNat + 1) : Int) ∧ 99 ≤ gZ S (44 + (stC D l.toNat : Int) + 1 + plQ p)) = decide (0 ≤ v) := by
      rw [Bool.eq_iff_iff, decide_eq_true_iff, decide_eq_true_iff, hv]
      constructor
      · intro z
        rw [if_pos z.2]
        omega
      · intro z
        split at z
        · next hz => exact ⟨by omega, hz⟩
        · omega
    rw [ed]
    exact gg
end TH
