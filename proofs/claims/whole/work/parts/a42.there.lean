/-! the class: what a step names is there; the claim is right -/
theorem f84_0 : x_fetch q_k84 0 = x_ldi 1 1 := rfl
theorem t84_0 (C : xF) (s n : Nat) (z : xS) : x_to q_k84 C s (n + 1) 0 z = x_nx q_k84 C s n ((x_ldi 1 1) C z) := x_to_at f84_0 C s n z
theorem f84_1 : x_fetch q_k84 1 = x_st (x_push 2 (.int (4))) := rfl
theorem t84_1 (C : xF) (s n : Nat) (z : xS) : x_to q_k84 C s (n + 1) 1 z = x_nx q_k84 C s n ((x_st (x_push 2 (.int (4)))) C z) := x_to_at f84_1 C s n z
theorem f84_2 : x_fetch q_k84 2 = x_st (x_icne 20 5) := rfl
theorem t84_2 (C : xF) (s n : Nat) (z : xS) : x_to q_k84 C s (n + 1) 2 z = x_nx q_k84 C s n ((x_st (x_icne 20 5)) C z) := x_to_at f84_2 C s n z
theorem f84_5 : x_fetch q_k84 5 = x_lda 6 0 := rfl
theorem t84_5 (C : xF) (s n : Nat) (z : xS) : x_to q_k84 C s (n + 1) 5 z = x_nx q_k84 C s n ((x_lda 6 0) C z) := x_to_at f84_5 C s n z
theorem f84_6 : x_fetch q_k84 6 = x_gf 9 0 8 := rfl
theorem t84_6 (C : xF) (s n : Nat) (z : xS) : x_to q_k84 C s (n + 1) 6 z = x_nx q_k84 C s n ((x_gf 9 0 8) C z) := x_to_at f84_6 C s n z
theorem f84_9 : x_fetch q_k84 9 = x_lda 10 2 := rfl
theorem t84_9 (C : xF) (s n : Nat) (z : xS) : x_to q_k84 C s (n + 1) 9 z = x_nx q_k84 C s n ((x_lda 10 2) C z) := x_to_at f84_9 C s n z
theorem f84_10 : x_fetch q_k84 10 = x_lda 11 0 := rfl
theorem t84_10 (C : xF) (s n : Nat) (z : xS) : x_to q_k84 C s (n + 1) 10 z = x_nx q_k84 C s n ((x_lda 11 0) C z) := x_to_at f84_10 C s n z
theorem f84_11 : x_fetch q_k84 11 = x_gf 14 0 4 := rfl
theorem t84_11 (C : xF) (s n : Nat) (z : xS) : x_to q_k84 C s (n + 1) 11 z = x_nx q_k84 C s n ((x_gf 14 0 4) C z) := x_to_at f84_11 C s n z
theorem f84_14 : x_fetch q_k84 14 = x_cv 17 53 3 6 := rfl
theorem t84_14 (C : xF) (s n : Nat) (z : xS) : x_to q_k84 C s (n + 1) 14 z = x_nx q_k84 C s n ((x_cv 17 53 3 6) C z) := x_to_at f84_14 C s n z
theorem f84_17 : x_fetch q_k84 17 = x_st (x_goto 34) := rfl
theorem t84_17 (C : xF) (s n : Nat) (z : xS) : x_to q_k84 C s (n + 1) 17 z = x_nx q_k84 C s n ((x_st (x_goto 34)) C z) := x_to_at f84_17 C s n z
theorem f84_20 : x_fetch q_k84 20 = x_lda 21 0 := rfl
theorem t84_20 (C : xF) (s n : Nat) (z : xS) : x_to q_k84 C s (n + 1) 20 z = x_nx q_k84 C s n ((x_lda 21 0) C z) := x_to_at f84_20 C s n z
theorem f84_21 : x_fetch q_k84 21 = x_gf 24 0 7 := rfl
theorem t84_21 (C : xF) (s n : Nat) (z : xS) : x_to q_k84 C s (n + 1) 21 z = x_nx q_k84 C s n ((x_gf 24 0 7) C z) := x_to_at f84_21 C s n z
theorem f84_24 : x_fetch q_k84 24 = x_gf 27 2 0 := rfl
theorem t84_24 (C : xF) (s n : Nat) (z : xS) : x_to q_k84 C s (n + 1) 24 z = x_nx q_k84 C s n ((x_gf 27 2 0) C z) := x_to_at f84_24 C s n z
theorem f84_27 : x_fetch q_k84 27 = x_lda 28 0 := rfl
theorem t84_27 (C : xF) (s n : Nat) (z : xS) : x_to q_k84 C s (n + 1) 27 z = x_nx q_k84 C s n ((x_lda 28 0) C z) := x_to_at f84_27 C s n z
theorem f84_28 : x_fetch q_k84 28 = x_gf 31 0 4 := rfl
theorem t84_28 (C : xF) (s n : Nat) (z : xS) : x_to q_k84 C s (n + 1) 28 z = x_nx q_k84 C s n ((x_gf 31 0 4) C z) := x_to_at f84_28 C s n z
theorem f84_31 : x_fetch q_k84 31 = x_cv 34 23 2 4 := rfl
theorem t84_31 (C : xF) (s n : Nat) (z : xS) : x_to q_k84 C s (n + 1) 31 z = x_nx q_k84 C s n ((x_cv 34 23 2 4) C z) := x_to_at f84_31 C s n z
theorem f84_34 : x_fetch q_k84 34 = x_ri (.boolean) := rfl
theorem t84_34 (C : xF) (s n : Nat) (z : xS) : x_to q_k84 C s (n + 1) 34 z = x_nx q_k84 C s n ((x_ri (.boolean)) C z) := x_to_at f84_34 C s n z
theorem f86_0 : x_fetch q_k86 0 = x_ldi 1 1 := rfl
theorem t86_0 (C : xF) (s n : Nat) (z : xS) : x_to q_k86 C s (n + 1) 0 z = x_nx q_k86 C s n ((x_ldi 1 1) C z) := x_to_at f86_0 C s n z
theorem f86_1 : x_fetch q_k86 1 = x_st (x_tsw 0 4 [36, 60, 83, 89, 128] 133) := rfl
theorem t86_1 (C : xF) (s n : Nat) (z : xS) : x_to q_k86 C s (n + 1) 1 z = x_nx q_k86 C s n ((x_st (x_tsw 0 4 [36, 60, 83, 89, 128] 133)) C z) := x_to_at f86_1 C s n z
theorem f86_36 : x_fetch q_k86 36 = x_lda 37 2 := rfl
theorem t86_36 (C : xF) (s n : Nat) (z : xS) : x_to q_k86 C s (n + 1) 36 z = x_nx q_k86 C s n ((x_lda 37 2) C z) := x_to_at f86_36 C s n z
theorem f86_37 : x_fetch q_k86 37 = x_ldi 38 3 := rfl
theorem t86_37 (C : xF) (s n : Nat) (z : xS) : x_to q_k86 C s (n + 1) 37 z = x_nx q_k86 C s n ((x_ldi 38 3) C z) := x_to_at f86_37 C s n z
theorem f86_38 : x_fetch q_k86 38 = x_cv 41 12 2 4 := rfl
theorem t86_38 (C : xF) (s n : Nat) (z : xS) : x_to q_k86 C s (n + 1) 38 z = x_nx q_k86 C s n ((x_cv 41 12 2 4) C z) := x_to_at f86_38 C s n z
theorem f86_41 : x_fetch q_k86 41 = x_st (x_ifeq 58 44) := rfl
theorem t86_41 (C : xF) (s n : Nat) (z : xS) : x_to q_k86 C s (n + 1) 41 z = x_nx q_k86 C s n ((x_st (x_ifeq 58 44)) C z) := x_to_at f86_41 C s n z
theorem f86_44 : x_fetch q_k86 44 = x_lda 46 4 := rfl
theorem t86_44 (C : xF) (s n : Nat) (z : xS) : x_to q_k86 C s (n + 1) 44 z = x_nx q_k86 C s n ((x_lda 46 4) C z) := x_to_at f86_44 C s n z
theorem f86_46 : x_fetch q_k86 46 = x_ldi 48 5 := rfl
theorem t86_46 (C : xF) (s n : Nat) (z : xS) : x_to q_k86 C s (n + 1) 46 z = x_nx q_k86 C s n ((x_ldi 48 5) C z) := x_to_at f86_46 C s n z
theorem f86_48 : x_fetch q_k86 48 = x_cv 51 12 2 4 := rfl
theorem t86_48 (C : xF) (s n : Nat) (z : xS) : x_to q_k86 C s (n + 1) 48 z = x_nx q_k86 C s n ((x_cv 51 12 2 4) C z) := x_to_at f86_48 C s n z
theorem f86_51 : x_fetch q_k86 51 = x_st (x_ifeq 58 54) := rfl
theorem t86_51 (C : xF) (s n : Nat) (z : xS) : x_to q_k86 C s (n + 1) 51 z = x_nx q_k86 C s n ((x_st (x_ifeq 58 54)) C z) := x_to_at f86_51 C s n z
theorem f86_54 : x_fetch q_k86 54 = x_st (x_push 55 (.int (1))) := rfl
theorem t86_54 (C : xF) (s n : Nat) (z : xS) : x_to q_k86 C s (n + 1) 54 z = x_nx q_k86 C s n ((x_st (x_push 55 (.int (1)))) C z) := x_to_at f86_54 C s n z
theorem f86_55 : x_fetch q_k86 55 = x_st (x_goto 59) := rfl
theorem t86_55 (C : xF) (s n : Nat) (z : xS) : x_to q_k86 C s (n + 1) 55 z = x_nx q_k86 C s n ((x_st (x_goto 59)) C z) := x_to_at f86_55 C s n z
theorem f86_58 : x_fetch q_k86 58 = x_st (x_push 59 (.int (0))) := rfl
theorem t86_58 (C : xF) (s n : Nat) (z : xS) : x_to q_k86 C s (n + 1) 58 z = x_nx q_k86 C s n ((x_st (x_push 59 (.int (0)))) C z) := x_to_at f86_58 C s n z
theorem f86_59 : x_fetch q_k86 59 = x_ri (.boolean) := rfl
theorem t86_59 (C : xF) (s n : Nat) (z : xS) : x_to q_k86 C s (n + 1) 59 z = x_nx q_k86 C s n ((x_ri (.boolean)) C z) := x_to_at f86_59 C s n z
theorem f86_60 : x_fetch q_k86 60 = x_lda 61 2 := rfl
theorem t86_60 (C : xF) (s n : Nat) (z : xS) : x_to q_k86 C s (n + 1) 60 z = x_nx q_k86 C s n ((x_lda 61 2) C z) := x_to_at f86_60 C s n z
theorem f86_61 : x_fetch q_k86 61 = x_ldi 62 3 := rfl
theorem t86_61 (C : xF) (s n : Nat) (z : xS) : x_to q_k86 C s (n + 1) 61 z = x_nx q_k86 C s n ((x_ldi 62 3) C z) := x_to_at f86_61 C s n z
theorem f86_62 : x_fetch q_k86 62 = x_cv 65 12 2 4 := rfl
theorem t86_62 (C : xF) (s n : Nat) (z : xS) : x_to q_k86 C s (n + 1) 62 z = x_nx q_k86 C s n ((x_cv 65 12 2 4) C z) := x_to_at f86_62 C s n z
theorem f86_65 : x_fetch q_k86 65 = x_st (x_ifeq 81 68) := rfl
theorem t86_65 (C : xF) (s n : Nat) (z : xS) : x_to q_k86 C s (n + 1) 65 z = x_nx q_k86 C s n ((x_st (x_ifeq 81 68)) C z) := x_to_at f86_65 C s n z
theorem f86_68 : x_fetch q_k86 68 = x_lda 69 2 := rfl
theorem t86_68 (C : xF) (s n : Nat) (z : xS) : x_to q_k86 C s (n + 1) 68 z = x_nx q_k86 C s n ((x_lda 69 2) C z) := x_to_at f86_68 C s n z
theorem f86_69 : x_fetch q_k86 69 = x_ldi 71 5 := rfl
theorem t86_69 (C : xF) (s n : Nat) (z : xS) : x_to q_k86 C s (n + 1) 69 z = x_nx q_k86 C s n ((x_ldi 71 5) C z) := x_to_at f86_69 C s n z
theorem f86_71 : x_fetch q_k86 71 = x_cv 74 12 2 4 := rfl
theorem t86_71 (C : xF) (s n : Nat) (z : xS) : x_to q_k86 C s (n + 1) 71 z = x_nx q_k86 C s n ((x_cv 74 12 2 4) C z) := x_to_at f86_71 C s n z
theorem f86_74 : x_fetch q_k86 74 = x_st (x_ifeq 81 77) := rfl
theorem t86_74 (C : xF) (s n : Nat) (z : xS) : x_to q_k86 C s (n + 1) 74 z = x_nx q_k86 C s n ((x_st (x_ifeq 81 77)) C z) := x_to_at f86_74 C s n z
theorem f86_77 : x_fetch q_k86 77 = x_st (x_push 78 (.int (1))) := rfl
theorem t86_77 (C : xF) (s n : Nat) (z : xS) : x_to q_k86 C s (n + 1) 77 z = x_nx q_k86 C s n ((x_st (x_push 78 (.int (1)))) C z) := x_to_at f86_77 C s n z
theorem f86_78 : x_fetch q_k86 78 = x_st (x_goto 82) := rfl
theorem t86_78 (C : xF) (s n : Nat) (z : xS) : x_to q_k86 C s (n + 1) 78 z = x_nx q_k86 C s n ((x_st (x_goto 82)) C z) := x_to_at f86_78 C s n z
theorem f86_81 : x_fetch q_k86 81 = x_st (x_push 82 (.int (0))) := rfl
theorem t86_81 (C : xF) (s n : Nat) (z : xS) : x_to q_k86 C s (n + 1) 81 z = x_nx q_k86 C s n ((x_st (x_push 82 (.int (0)))) C z) := x_to_at f86_81 C s n z
theorem f86_82 : x_fetch q_k86 82 = x_ri (.boolean) := rfl
theorem t86_82 (C : xF) (s n : Nat) (z : xS) : x_to q_k86 C s (n + 1) 82 z = x_nx q_k86 C s n ((x_ri (.boolean)) C z) := x_to_at f86_82 C s n z
theorem f86_83 : x_fetch q_k86 83 = x_lda 84 2 := rfl
theorem t86_83 (C : xF) (s n : Nat) (z : xS) : x_to q_k86 C s (n + 1) 83 z = x_nx q_k86 C s n ((x_lda 84 2) C z) := x_to_at f86_83 C s n z
theorem f86_84 : x_fetch q_k86 84 = x_ldi 85 3 := rfl
theorem t86_84 (C : xF) (s n : Nat) (z : xS) : x_to q_k86 C s (n + 1) 84 z = x_nx q_k86 C s n ((x_ldi 85 3) C z) := x_to_at f86_84 C s n z
theorem f86_85 : x_fetch q_k86 85 = x_cv 88 12 2 4 := rfl
theorem t86_85 (C : xF) (s n : Nat) (z : xS) : x_to q_k86 C s (n + 1) 85 z = x_nx q_k86 C s n ((x_cv 88 12 2 4) C z) := x_to_at f86_85 C s n z
theorem f86_88 : x_fetch q_k86 88 = x_ri (.boolean) := rfl
theorem t86_88 (C : xF) (s n : Nat) (z : xS) : x_to q_k86 C s (n + 1) 88 z = x_nx q_k86 C s n ((x_ri (.boolean)) C z) := x_to_at f86_88 C s n z
theorem f86_89 : x_fetch q_k86 89 = x_lda 90 2 := rfl
theorem t86_89 (C : xF) (s n : Nat) (z : xS) : x_to q_k86 C s (n + 1) 89 z = x_nx q_k86 C s n ((x_lda 90 2) C z) := x_to_at f86_89 C s n z
theorem f86_90 : x_fetch q_k86 90 = x_ldi 91 3 := rfl
theorem t86_90 (C : xF) (s n : Nat) (z : xS) : x_to q_k86 C s (n + 1) 90 z = x_nx q_k86 C s n ((x_ldi 91 3) C z) := x_to_at f86_90 C s n z
theorem f86_91 : x_fetch q_k86 91 = x_cv 94 12 2 4 := rfl
theorem t86_91 (C : xF) (s n : Nat) (z : xS) : x_to q_k86 C s (n + 1) 91 z = x_nx q_k86 C s n ((x_cv 94 12 2 4) C z) := x_to_at f86_91 C s n z
theorem f86_94 : x_fetch q_k86 94 = x_st (x_ifeq 126 97) := rfl
theorem t86_94 (C : xF) (s n : Nat) (z : xS) : x_to q_k86 C s (n + 1) 94 z = x_nx q_k86 C s n ((x_st (x_ifeq 126 97)) C z) := x_to_at f86_94 C s n z
theorem f86_97 : x_fetch q_k86 97 = x_lda 99 4 := rfl
theorem t86_97 (C : xF) (s n : Nat) (z : xS) : x_to q_k86 C s (n + 1) 97 z = x_nx q_k86 C s n ((x_lda 99 4) C z) := x_to_at f86_97 C s n z
theorem f86_99 : x_fetch q_k86 99 = x_ldi 101 5 := rfl
theorem t86_99 (C : xF) (s n : Nat) (z : xS) : x_to q_k86 C s (n + 1) 99 z = x_nx q_k86 C s n ((x_ldi 101 5) C z) := x_to_at f86_99 C s n z
theorem f86_101 : x_fetch q_k86 101 = x_cv 104 12 2 4 := rfl
theorem t86_101 (C : xF) (s n : Nat) (z : xS) : x_to q_k86 C s (n + 1) 101 z = x_nx q_k86 C s n ((x_cv 104 12 2 4) C z) := x_to_at f86_101 C s n z
theorem f86_104 : x_fetch q_k86 104 = x_st (x_ifeq 126 107) := rfl
theorem t86_104 (C : xF) (s n : Nat) (z : xS) : x_to q_k86 C s (n + 1) 104 z = x_nx q_k86 C s n ((x_st (x_ifeq 126 107)) C z) := x_to_at f86_104 C s n z
theorem f86_107 : x_fetch q_k86 107 = x_lda 109 4 := rfl
theorem t86_107 (C : xF) (s n : Nat) (z : xS) : x_to q_k86 C s (n + 1) 107 z = x_nx q_k86 C s n ((x_lda 109 4) C z) := x_to_at f86_107 C s n z
theorem f86_109 : x_fetch q_k86 109 = x_ldi 111 5 := rfl
theorem t86_109 (C : xF) (s n : Nat) (z : xS) : x_to q_k86 C s (n + 1) 109 z = x_nx q_k86 C s n ((x_ldi 111 5) C z) := x_to_at f86_109 C s n z
theorem f86_111 : x_fetch q_k86 111 = x_ldi 113 6 := rfl
theorem t86_111 (C : xF) (s n : Nat) (z : xS) : x_to q_k86 C s (n + 1) 111 z = x_nx q_k86 C s n ((x_ldi 113 6) C z) := x_to_at f86_111 C s n z
theorem f86_113 : x_fetch q_k86 113 = x_cl_ 116 87 1 := rfl
theorem t86_113 (C : xF) (s n : Nat) (z : xS) : x_to q_k86 C s (n + 1) 113 z = x_nx q_k86 C s n ((x_cl_ 116 87 1) C z) := x_to_at f86_113 C s n z
theorem f86_116 : x_fetch q_k86 116 = x_cv 119 14 3 4 := rfl
theorem t86_116 (C : xF) (s n : Nat) (z : xS) : x_to q_k86 C s (n + 1) 116 z = x_nx q_k86 C s n ((x_cv 119 14 3 4) C z) := x_to_at f86_116 C s n z
theorem f86_119 : x_fetch q_k86 119 = x_st (x_ifeq 126 122) := rfl
theorem t86_119 (C : xF) (s n : Nat) (z : xS) : x_to q_k86 C s (n + 1) 119 z = x_nx q_k86 C s n ((x_st (x_ifeq 126 122)) C z) := x_to_at f86_119 C s n z
theorem f86_122 : x_fetch q_k86 122 = x_st (x_push 123 (.int (1))) := rfl
theorem t86_122 (C : xF) (s n : Nat) (z : xS) : x_to q_k86 C s (n + 1) 122 z = x_nx q_k86 C s n ((x_st (x_push 123 (.int (1)))) C z) := x_to_at f86_122 C s n z
theorem f86_123 : x_fetch q_k86 123 = x_st (x_goto 127) := rfl
theorem t86_123 (C : xF) (s n : Nat) (z : xS) : x_to q_k86 C s (n + 1) 123 z = x_nx q_k86 C s n ((x_st (x_goto 127)) C z) := x_to_at f86_123 C s n z
theorem f86_126 : x_fetch q_k86 126 = x_st (x_push 127 (.int (0))) := rfl
theorem t86_126 (C : xF) (s n : Nat) (z : xS) : x_to q_k86 C s (n + 1) 126 z = x_nx q_k86 C s n ((x_st (x_push 127 (.int (0)))) C z) := x_to_at f86_126 C s n z
theorem f86_127 : x_fetch q_k86 127 = x_ri (.boolean) := rfl
theorem t86_127 (C : xF) (s n : Nat) (z : xS) : x_to q_k86 C s (n + 1) 127 z = x_nx q_k86 C s n ((x_ri (.boolean)) C z) := x_to_at f86_127 C s n z
theorem f86_128 : x_fetch q_k86 128 = x_lda 129 0 := rfl
theorem t86_128 (C : xF) (s n : Nat) (z : xS) : x_to q_k86 C s (n + 1) 128 z = x_nx q_k86 C s n ((x_lda 129 0) C z) := x_to_at f86_128 C s n z
theorem f86_129 : x_fetch q_k86 129 = x_gf 132 0 5 := rfl
theorem t86_129 (C : xF) (s n : Nat) (z : xS) : x_to q_k86 C s (n + 1) 129 z = x_nx q_k86 C s n ((x_gf 132 0 5) C z) := x_to_at f86_129 C s n z
theorem f86_132 : x_fetch q_k86 132 = x_ri (.boolean) := rfl
theorem t86_132 (C : xF) (s n : Nat) (z : xS) : x_to q_k86 C s (n + 1) 132 z = x_nx q_k86 C s n ((x_ri (.boolean)) C z) := x_to_at f86_132 C s n z
theorem f86_133 : x_fetch q_k86 133 = x_st (x_push 134 (.int (0))) := rfl
theorem t86_133 (C : xF) (s n : Nat) (z : xS) : x_to q_k86 C s (n + 1) 133 z = x_nx q_k86 C s n ((x_st (x_push 134 (.int (0)))) C z) := x_to_at f86_133 C s n z
theorem f86_134 : x_fetch q_k86 134 = x_ri (.boolean) := rfl
theorem t86_134 (C : xF) (s n : Nat) (z : xS) : x_to q_k86 C s (n + 1) 134 z = x_nx q_k86 C s n ((x_ri (.boolean)) C z) := x_to_at f86_134 C s n z
def isT (rule : Int) (D : List (Int × List Int)) (k : Int) (D2 : List (Int × List Int)) (l p : Int) (cm : Bool) : Bool := if rule = 0 then litB D k && litB D2 l else if rule = 1 then litB D k && litB D l else if rule = 2 then litB D k else if rule = 3 then litB D k && (litB D2 l && plB (lC D2 l.toNat).2 p) else if rule = 4 then cm else false
section ITH
variable {w : Nat → xC} {N a b : Nat} {D D2 : List (Int × List Int)} {S E B S2 E2 B2 : List Int} {o o2 cnt cf lf : Int} {cm : Bool}
set_option maxHeartbeats 1000000 in
theorem m86 (d : Nat) (hN : 53 ≤ N) (h0 : w 0 = dk cnt (bZ cm) cf lf) (hf : FM w N a S E B D o) (hf2 : FM w N b S2 E2 B2 D2 o2) (rule k l p : Int) (rr : -2147483648 ≤ rule ∧ rule < 2147483648) (kr : -2147483648 ≤ k ∧ k < 2147483648) (lr : -2147483648 ≤ l ∧ l < 2147483648) (pr : -2147483648 ≤ p ∧ p < 2147483648) : Xc (d + 3) 86 [.ref 3, .int (iZ rule), .ref (a + 3), .int (iZ k), .ref (b + 3), .int (iZ l), .int (iZ p)] (hp w N) (some (.int (iZ (bZ (isT rule D k D2 l p cm)))), hp w N) := by
  obtain ⟨f1, f2, f3, f4, f5, f6, f7⟩ := hf
  obtain ⟨g1, g2, g3, g4, g5, g6, g7⟩ := hf2
  have d6 := f4.1
  have e6 := g4.1
  have Xk := m12 (N := N) (d + 1) k f1 f2 kr.1 kr.2 (by omega) (by omega)
  have Xl := m12 (N := N) (d + 1) l f1 f2 lr.1 lr.2 (by omega) (by omega)
  have Xm := m12 (N := N) (d + 1) l g1 g2 lr.1 lr.2 (by omega) (by omega)
  have ek : decide (0 ≤ k ∧ k < (D.length : Int)) = litB D k := rfl
  have el : decide (0 ≤ l ∧ l < (D.length : Int)) = litB D l := rfl
  have em : decide (0 ≤ l ∧ l < (D2.length : Int)) = litB D2 l := rfl
  rw [ek] at Xk
  rw [el] at Xl
  rw [em] at Xm
  have na := f2.1
  have nb := g2.1
  have fa := f1.1
  have fb := g1.1
  by_cases r0 : rule = 0
  · subst r0
    have e : isT 0 D k D2 l p cm = (litB D k && litB D2 l) := rfl
    rw [e]
    refine Xc.of rfl (by simp [lg_sl, Value.category]) ?_ (x_le.rf)
    have hc : c1 (lv_args 0 [.ref 3, .int (iZ 0), .ref (a + 3), .int (iZ k), .ref (b + 3), .int (iZ l), .int (iZ p)]) := by simp [c1, lv_args, Value.category]
    have l0 : x_lk (lv_args 0 [.ref 3, .int (iZ 0), .ref (a + 3), .int (iZ k), .ref (b + 3), .int (iZ l), .int (iZ p)]) 0 = some (.ref 3) := rfl
    have l1 : x_lk (lv_args 0 [.ref 3, .int (iZ 0), .ref (a + 3), .int (iZ k), .ref (b + 3), .int (iZ l), .int (iZ p)]) 1 = some (.int (iZ 0)) := rfl
    have l2 : x_lk (lv_args 0 [.ref 3, .int (iZ 0), .ref (a + 3), .int (iZ k), .ref (b + 3), .int (iZ l), .int (iZ p)]) 2 = some (.ref (a + 3)) := rfl
    have l3 : x_lk (lv_args 0 [.ref 3, .int (iZ 0), .ref (a + 3), .int (iZ k), .ref (b + 3), .int (iZ l), .int (iZ p)]) 3 = some (.int (iZ k)) := rfl
    have l4 : x_lk (lv_args 0 [.ref 3, .int (iZ 0), .ref (a + 3), .int (iZ k), .ref (b + 3), .int (iZ l), .int (iZ p)]) 4 = some (.ref (b + 3)) := rfl
    have l5 : x_lk (lv_args 0 [.ref 3, .int (iZ 0), .ref (a + 3), .int (iZ k), .ref (b + 3), .int (iZ l), .int (iZ p)]) 5 = some (.int (iZ l)) := rfl
    have l6 : x_lk (lv_args 0 [.ref 3, .int (iZ 0), .ref (a + 3), .int (iZ k), .ref (b + 3), .int (iZ l), .int (iZ p)]) 6 = some (.int (iZ p)) := rfl
    generalize lv_args 0 [.ref 3, .int (iZ 0), .ref (a + 3), .int (iZ k), .ref (b + 3), .int (iZ l), .int (iZ p)] = lv at hc l0 l1 l2 l3 l4 l5 l6
    refine Gx.fin 40 (Xk.and Xm) (fun X mm => ?_)
    obtain ⟨mm1, mm2⟩ := mm
    have t1 : (iZ 0).toInt = 0 := by decide
    cases hk : litB D k with
    | false =>
      rw [hk, bZ_f] at mm1
      rw [Bool.false_and, bZ_f]
      simp (disch := first | (refine c1_id ?_; assumption) | (refine c1_st rfl ?_; repeat (first | assumption | refine c1_st rfl ?_)) | omega) [nx_l, nx_r, nx_n, x_st, x_push, x_bin, x_div, x_un, x_dup, x_pop, x_dup2, x_goto, x_ifeq, x_ifne, x_iflt, x_ifge, x_ifgt, x_ifle, x_iceq, x_icne, x_iclt, x_icge, x_icgt, x_icle, x_ifnull, x_ifnonnull, x_ldi, x_lda, x_sti, x_sta, x_iinc, x_gf, x_pf, x_ald, x_ast, x_aln, x_len, x_cl_, x_cv, x_cs, x_rc, x_r0, x_isT, x_oi, x_rv, x_ri, x_ra, Value.category, t86_0, t86_1, t86_36, t86_37, t86_38, t86_41, t86_44, t86_46, t86_48, t86_51, t86_54, t86_55, t86_58, t86_59, t86_60, t86_61, t86_62, t86_65, t86_68, t86_69, t86_71, t86_74, t86_77, t86_78, t86_81, t86_82, t86_83, t86_84, t86_85, t86_88, t86_89, t86_90, t86_91, t86_94, t86_97, t86_99, t86_101, t86_104, t86_107, t86_109, t86_111, t86_113, t86_116, t86_119, t86_122, t86_123, t86_126, t86_127, t86_128, t86_129, t86_132, t86_133, t86_134, lk_s, hp_get, hp_set, uH_at, uH_ne, uH_upd, uH_swap, iZ_add, iZ_sub, iZ_mul, iZ_neg, iZ_lt, iZ_le, iZ_eq, iZ_div, iZ_of, ix_Z, gZ_map, gZ_mapI, gZ_map', le_0, le_s, sZ_map, sZ_len, bZ_0, bZ_inj, bZ_t, bZ_f, nr_i, nr_0, nr_1, nr_b, ft_i, ft_b, ft_0, ft_1, zl_0, zl_1, l0, l1, l2, l3, l4, l5, fa, fb, t1, mm1, mm2, x_tsw, -List.filter_filter, -List.getElem?_map, -List.getD_eq_getElem?_getD]
    | true =>
      rw [hk, bZ_t] at mm1
      rw [Bool.true_and]
      cases hl : litB D2 l with
      | false =>
        rw [hl, bZ_f] at mm2
        rw [bZ_f]
        simp (disch := first | (refine c1_id ?_; assumption) | (refine c1_st rfl ?_; repeat (first | assumption | refine c1_st rfl ?_)) | omega) [nx_l, nx_r, nx_n, x_st, x_push, x_bin, x_div, x_un, x_dup, x_pop, x_dup2, x_goto, x_ifeq, x_ifne, x_iflt, x_ifge, x_ifgt, x_ifle, x_iceq, x_icne, x_iclt, x_icge, x_icgt, x_icle, x_ifnull, x_ifnonnull, x_ldi, x_lda, x_sti, x_sta, x_iinc, x_gf, x_pf, x_ald, x_ast, x_aln, x_len, x_cl_, x_cv, x_cs, x_rc, x_r0, x_isT, x_oi, x_rv, x_ri, x_ra, Value.category, t86_0, t86_1, t86_36, t86_37, t86_38, t86_41, t86_44, t86_46, t86_48, t86_51, t86_54, t86_55, t86_58, t86_59, t86_60, t86_61, t86_62, t86_65, t86_68, t86_69, t86_71, t86_74, t86_77, t86_78, t86_81, t86_82, t86_83, t86_84, t86_85, t86_88, t86_89, t86_90, t86_91, t86_94, t86_97, t86_99, t86_101, t86_104, t86_107, t86_109, t86_111, t86_113, t86_116, t86_119, t86_122, t86_123, t86_126, t86_127, t86_128, t86_129, t86_132, t86_133, t86_134, lk_s, hp_get, hp_set, uH_at, uH_ne, uH_upd, uH_swap, iZ_add, iZ_sub, iZ_mul, iZ_neg, iZ_lt, iZ_le, iZ_eq, iZ_div, iZ_of, ix_Z, gZ_map, gZ_mapI, gZ_map', le_0, le_s, sZ_map, sZ_len, bZ_0, bZ_inj, bZ_t, bZ_f, nr_i, nr_0, nr_1, nr_b, ft_i, ft_b, ft_0, ft_1, zl_0, zl_1, l0, l1, l2, l3, l4, l5, fa, fb, t1, mm1, mm2, x_tsw, -List.filter_filter, -List.getElem?_map, -List.getD_eq_getElem?_getD]
      | true =>
        rw [hl, bZ_t] at mm2
        rw [bZ_t]
        simp (disch := first | (refine c1_id ?_; assumption) | (refine c1_st rfl ?_; repeat (first | assumption | refine c1_st rfl ?_)) | omega) [nx_l, nx_r, nx_n, x_st, x_push, x_bin, x_div, x_un, x_dup, x_pop, x_dup2, x_goto, x_ifeq, x_ifne, x_iflt, x_ifge, x_ifgt, x_ifle, x_iceq, x_icne, x_iclt, x_icge, x_icgt, x_icle, x_ifnull, x_ifnonnull, x_ldi, x_lda, x_sti, x_sta, x_iinc, x_gf, x_pf, x_ald, x_ast, x_aln, x_len, x_cl_, x_cv, x_cs, x_rc, x_r0, x_isT, x_oi, x_rv, x_ri, x_ra, Value.category, t86_0, t86_1, t86_36, t86_37, t86_38, t86_41, t86_44, t86_46, t86_48, t86_51, t86_54, t86_55, t86_58, t86_59, t86_60, t86_61, t86_62, t86_65, t86_68, t86_69, t86_71, t86_74, t86_77, t86_78, t86_81, t86_82, t86_83, t86_84, t86_85, t86_88, t86_89, t86_90, t86_91, t86_94, t86_97, t86_99, t86_101, t86_104, t86_107, t86_109, t86_111, t86_113, t86_116, t86_119, t86_122, t86_123, t86_126, t86_127, t86_128, t86_129, t86_132, t86_133, t86_134, lk_s, hp_get, hp_set, uH_at, uH_ne, uH_upd, uH_swap, iZ_add, iZ_sub, iZ_mul, iZ_neg, iZ_lt, iZ_le, iZ_eq, iZ_div, iZ_of, ix_Z, gZ_map, gZ_mapI, gZ_map', le_0, le_s, sZ_map, sZ_len, bZ_0, bZ_inj, bZ_t, bZ_f, nr_i, nr_0, nr_1, nr_b, ft_i, ft_b, ft_0, ft_1, zl_0, zl_1, l0, l1, l2, l3, l4, l5, fa, fb, t1, mm1, mm2, x_tsw, -List.filter_filter, -List.getElem?_map, -List.getD_eq_getElem?_getD]
  · by_cases r1 : rule = 1
    · subst r1
      have e : isT 1 D k D2 l p cm = (litB D k && litB D l) := rfl
      rw [e]
      refine Xc.of rfl (by simp [lg_sl, Value.category]) ?_ (x_le.rf)
      have hc : c1 (lv_args 0 [.ref 3, .int (iZ 1), .ref (a + 3), .int (iZ k), .ref (b + 3), .int (iZ l), .int (iZ p)]) := by simp [c1, lv_args, Value.category]
      have l0 : x_lk (lv_args 0 [.ref 3, .int (iZ 1), .ref (a + 3), .int (iZ k), .ref (b + 3), .int (iZ l), .int (iZ p)]) 0 = some (.ref 3) := rfl
      have l1 : x_lk (lv_args 0 [.ref 3, .int (iZ 1), .ref (a + 3), .int (iZ k), .ref (b + 3), .int (iZ l), .int (iZ p)]) 1 = some (.int (iZ 1)) := rfl
      have l2 : x_lk (lv_args 0 [.ref 3, .int (iZ 1), .ref (a + 3), .int (iZ k), .ref (b + 3), .int (iZ l), .int (iZ p)]) 2 = some (.ref (a + 3)) := rfl
      have l3 : x_lk (lv_args 0 [.ref 3, .int (iZ 1), .ref (a + 3), .int (iZ k), .ref (b + 3), .int (iZ l), .int (iZ p)]) 3 = some (.int (iZ k)) := rfl
      have l4 : x_lk (lv_args 0 [.ref 3, .int (iZ 1), .ref (a + 3), .int (iZ k), .ref (b + 3), .int (iZ l), .int (iZ p)]) 4 = some (.ref (b + 3)) := rfl
      have l5 : x_lk (lv_args 0 [.ref 3, .int (iZ 1), .ref (a + 3), .int (iZ k), .ref (b + 3), .int (iZ l), .int (iZ p)]) 5 = some (.int (iZ l)) := rfl
      have l6 : x_lk (lv_args 0 [.ref 3, .int (iZ 1), .ref (a + 3), .int (iZ k), .ref (b + 3), .int (iZ l), .int (iZ p)]) 6 = some (.int (iZ p)) := rfl
      generalize lv_args 0 [.ref 3, .int (iZ 1), .ref (a + 3), .int (iZ k), .ref (b + 3), .int (iZ l), .int (iZ p)] = lv at hc l0 l1 l2 l3 l4 l5 l6
      refine Gx.fin 40 (Xk.and Xl) (fun X mm => ?_)
      obtain ⟨mm1, mm2⟩ := mm
      have t1 : (iZ 1).toInt = 1 := by decide
      cases hk : litB D k with
      | false =>
        rw [hk, bZ_f] at mm1
        rw [Bool.false_and, bZ_f]
        simp (disch := first | (refine c1_id ?_; assumption) | (refine c1_st rfl ?_; repeat (first | assumption | refine c1_st rfl ?_)) | omega) [nx_l, nx_r, nx_n, x_st, x_push, x_bin, x_div, x_un, x_dup, x_pop, x_dup2, x_goto, x_ifeq, x_ifne, x_iflt, x_ifge, x_ifgt, x_ifle, x_iceq, x_icne, x_iclt, x_icge, x_icgt, x_icle, x_ifnull, x_ifnonnull, x_ldi, x_lda, x_sti, x_sta, x_iinc, x_gf, x_pf, x_ald, x_ast, x_aln, x_len, x_cl_, x_cv, x_cs, x_rc, x_r0, x_isT, x_oi, x_rv, x_ri, x_ra, Value.category, t86_0, t86_1, t86_36, t86_37, t86_38, t86_41, t86_44, t86_46, t86_48, t86_51, t86_54, t86_55, t86_58, t86_59, t86_60, t86_61, t86_62, t86_65, t86_68, t86_69, t86_71, t86_74, t86_77, t86_78, t86_81, t86_82, t86_83, t86_84, t86_85, t86_88, t86_89, t86_90, t86_91, t86_94, t86_97, t86_99, t86_101, t86_104, t86_107, t86_109, t86_111, t86_113, t86_116, t86_119, t86_122, t86_123, t86_126, t86_127, t86_128, t86_129, t86_132, t86_133, t86_134, lk_s, hp_get, hp_set, uH_at, uH_ne, uH_upd, uH_swap, iZ_add, iZ_sub, iZ_mul, iZ_neg, iZ_lt, iZ_le, iZ_eq, iZ_div, iZ_of, ix_Z, gZ_map, gZ_mapI, gZ_map', le_0, le_s, sZ_map, sZ_len, bZ_0, bZ_inj, bZ_t, bZ_f, nr_i, nr_0, nr_1, nr_b, ft_i, ft_b, ft_0, ft_1, zl_0, zl_1, l0, l1, l2, l3, l4, l5, fa, t1, mm1, mm2, x_tsw, -List.filter_filter, -List.getElem?_map, -List.getD_eq_getElem?_getD]
      | true =>
        rw [hk, bZ_t] at mm1
        rw [Bool.true_and]
        cases hl : litB D l with
        | false =>
          rw [hl, bZ_f] at mm2
          rw [bZ_f]
          simp (disch := first | (refine c1_id ?_; assumption) | (refine c1_st rfl ?_; repeat (first | assumption | refine c1_st rfl ?_)) | omega) [nx_l, nx_r, nx_n, x_st, x_push, x_bin, x_div, x_un, x_dup, x_pop, x_dup2, x_goto, x_ifeq, x_ifne, x_iflt, x_ifge, x_ifgt, x_ifle, x_iceq, x_icne, x_iclt, x_icge, x_icgt, x_icle, x_ifnull, x_ifnonnull, x_ldi, x_lda, x_sti, x_sta, x_iinc, x_gf, x_pf, x_ald, x_ast, x_aln, x_len, x_cl_, x_cv, x_cs, x_rc, x_r0, x_isT, x_oi, x_rv, x_ri, x_ra, Value.category, t86_0, t86_1, t86_36, t86_37, t86_38, t86_41, t86_44, t86_46, t86_48, t86_51, t86_54, t86_55, t86_58, t86_59, t86_60, t86_61, t86_62, t86_65, t86_68, t86_69, t86_71, t86_74, t86_77, t86_78, t86_81, t86_82, t86_83, t86_84, t86_85, t86_88, t86_89, t86_90, t86_91, t86_94, t86_97, t86_99, t86_101, t86_104, t86_107, t86_109, t86_111, t86_113, t86_116, t86_119, t86_122, t86_123, t86_126, t86_127, t86_128, t86_129, t86_132, t86_133, t86_134, lk_s, hp_get, hp_set, uH_at, uH_ne, uH_upd, uH_swap, iZ_add, iZ_sub, iZ_mul, iZ_neg, iZ_lt, iZ_le, iZ_eq, iZ_div, iZ_of, ix_Z, gZ_map, gZ_mapI, gZ_map', le_0, le_s, sZ_map, sZ_len, bZ_0, bZ_inj, bZ_t, bZ_f, nr_i, nr_0, nr_1, nr_b, ft_i, ft_b, ft_0, ft_1, zl_0, zl_1, l0, l1, l2, l3, l4, l5, fa, t1, mm1, mm2, x_tsw, -List.filter_filter, -List.getElem?_map, -List.getD_eq_getElem?_getD]
        | true =>
          rw [hl, bZ_t] at mm2
          rw [bZ_t]
          simp (disch := first | (refine c1_id ?_; assumption) | (refine c1_st rfl ?_; repeat (first | assumption | refine c1_st rfl ?_)) | omega) [nx_l, nx_r, nx_n, x_st, x_push, x_bin, x_div, x_un, x_dup, x_pop, x_dup2, x_goto, x_ifeq, x_ifne, x_iflt, x_ifge, x_ifgt, x_ifle, x_iceq, x_icne, x_iclt, x_icge, x_icgt, x_icle, x_ifnull, x_ifnonnull, x_ldi, x_lda, x_sti, x_sta, x_iinc, x_gf, x_pf, x_ald, x_ast, x_aln, x_len, x_cl_, x_cv, x_cs, x_rc, x_r0, x_isT, x_oi, x_rv, x_ri, x_ra, Value.category, t86_0, t86_1, t86_36, t86_37, t86_38, t86_41, t86_44, t86_46, t86_48, t86_51, t86_54, t86_55, t86_58, t86_59, t86_60, t86_61, t86_62, t86_65, t86_68, t86_69, t86_71, t86_74, t86_77, t86_78, t86_81, t86_82, t86_83, t86_84, t86_85, t86_88, t86_89, t86_90, t86_91, t86_94, t86_97, t86_99, t86_101, t86_104, t86_107, t86_109, t86_111, t86_113, t86_116, t86_119, t86_122, t86_123, t86_126, t86_127, t86_128, t86_129, t86_132, t86_133, t86_134, lk_s, hp_get, hp_set, uH_at, uH_ne, uH_upd, uH_swap, iZ_add, iZ_sub, iZ_mul, iZ_neg, iZ_lt, iZ_le, iZ_eq, iZ_div, iZ_of, ix_Z, gZ_map, gZ_mapI, gZ_map', le_0, le_s, sZ_map, sZ_len, bZ_0, bZ_inj, bZ_t, bZ_f, nr_i, nr_0, nr_1, nr_b, ft_i, ft_b, ft_0, ft_1, zl_0, zl_1, l0, l1, l2, l3, l4, l5, fa, t1, mm1, mm2, x_tsw, -List.filter_filter, -List.getElem?_map, -List.getD_eq_getElem?_getD]
    · by_cases r2 : rule = 2
      · subst r2
        have e : isT 2 D k D2 l p cm = litB D k := rfl
        rw [e]
        refine Xc.of rfl (by simp [lg_sl, Value.category]) ?_ (x_le.rf)
        have hc : c1 (lv_args 0 [.ref 3, .int (iZ 2), .ref (a + 3), .int (iZ k), .ref (b + 3), .int (iZ l), .int (iZ p)]) := by simp [c1, lv_args, Value.category]
        have l0 : x_lk (lv_args 0 [.ref 3, .int (iZ 2), .ref (a + 3), .int (iZ k), .ref (b + 3), .int (iZ l), .int (iZ p)]) 0 = some (.ref 3) := rfl
        have l1 : x_lk (lv_args 0 [.ref 3, .int (iZ 2), .ref (a + 3), .int (iZ k), .ref (b + 3), .int (iZ l), .int (iZ p)]) 1 = some (.int (iZ 2)) := rfl
        have l2 : x_lk (lv_args 0 [.ref 3, .int (iZ 2), .ref (a + 3), .int (iZ k), .ref (b + 3), .int (iZ l), .int (iZ p)]) 2 = some (.ref (a + 3)) := rfl
        have l3 : x_lk (lv_args 0 [.ref 3, .int (iZ 2), .ref (a + 3), .int (iZ k), .ref (b + 3), .int (iZ l), .int (iZ p)]) 3 = some (.int (iZ k)) := rfl
        have l4 : x_lk (lv_args 0 [.ref 3, .int (iZ 2), .ref (a + 3), .int (iZ k), .ref (b + 3), .int (iZ l), .int (iZ p)]) 4 = some (.ref (b + 3)) := rfl
        have l5 : x_lk (lv_args 0 [.ref 3, .int (iZ 2), .ref (a + 3), .int (iZ k), .ref (b + 3), .int (iZ l), .int (iZ p)]) 5 = some (.int (iZ l)) := rfl
        have l6 : x_lk (lv_args 0 [.ref 3, .int (iZ 2), .ref (a + 3), .int (iZ k), .ref (b + 3), .int (iZ l), .int (iZ p)]) 6 = some (.int (iZ p)) := rfl
        generalize lv_args 0 [.ref 3, .int (iZ 2), .ref (a + 3), .int (iZ k), .ref (b + 3), .int (iZ l), .int (iZ p)] = lv at hc l0 l1 l2 l3 l4 l5 l6
        refine Gx.fin 40 Xk (fun X mm => ?_)
        have t1 : (iZ 2).toInt = 2 := by decide
        cases hk : litB D k with
        | false =>
          rw [hk, bZ_f] at mm
          rw [bZ_f]
          simp (disch := first | (refine c1_id ?_; assumption) | (refine c1_st rfl ?_; repeat (first | assumption | refine c1_st rfl ?_)) | omega) [nx_l, nx_r, nx_n, x_st, x_push, x_bin, x_div, x_un, x_dup, x_pop, x_dup2, x_goto, x_ifeq, x_ifne, x_iflt, x_ifge, x_ifgt, x_ifle, x_iceq, x_icne, x_iclt, x_icge, x_icgt, x_icle, x_ifnull, x_ifnonnull, x_ldi, x_lda, x_sti, x_sta, x_iinc, x_gf, x_pf, x_ald, x_ast, x_aln, x_len, x_cl_, x_cv, x_cs, x_rc, x_r0, x_isT, x_oi, x_rv, x_ri, x_ra, Value.category, t86_0, t86_1, t86_36, t86_37, t86_38, t86_41, t86_44, t86_46, t86_48, t86_51, t86_54, t86_55, t86_58, t86_59, t86_60, t86_61, t86_62, t86_65, t86_68, t86_69, t86_71, t86_74, t86_77, t86_78, t86_81, t86_82, t86_83, t86_84, t86_85, t86_88, t86_89, t86_90, t86_91, t86_94, t86_97, t86_99, t86_101, t86_104, t86_107, t86_109, t86_111, t86_113, t86_116, t86_119, t86_122, t86_123, t86_126, t86_127, t86_128, t86_129, t86_132, t86_133, t86_134, lk_s, hp_get, hp_set, uH_at, uH_ne, uH_upd, uH_swap, iZ_add, iZ_sub, iZ_mul, iZ_neg, iZ_lt, iZ_le, iZ_eq, iZ_div, iZ_of, ix_Z, gZ_map, gZ_mapI, gZ_map', le_0, le_s, sZ_map, sZ_len, bZ_0, bZ_inj, bZ_t, bZ_f, nr_i, nr_0, nr_1, nr_b, ft_i, ft_b, ft_0, ft_1, zl_0, zl_1, l0, l1, l2, l3, l4, l5, fa, t1, mm, x_tsw, -List.filter_filter, -List.getElem?_map, -List.getD_eq_getElem?_getD]
        | true =>
          rw [hk, bZ_t] at mm
          rw [bZ_t]
          simp (disch := first | (refine c1_id ?_; assumption) | (refine c1_st rfl ?_; repeat (first | assumption | refine c1_st rfl ?_)) | omega) [nx_l, nx_r, nx_n, x_st, x_push, x_bin, x_div, x_un, x_dup, x_pop, x_dup2, x_goto, x_ifeq, x_ifne, x_iflt, x_ifge, x_ifgt, x_ifle, x_iceq, x_icne, x_iclt, x_icge, x_icgt, x_icle, x_ifnull, x_ifnonnull, x_ldi, x_lda, x_sti, x_sta, x_iinc, x_gf, x_pf, x_ald, x_ast, x_aln, x_len, x_cl_, x_cv, x_cs, x_rc, x_r0, x_isT, x_oi, x_rv, x_ri, x_ra, Value.category, t86_0, t86_1, t86_36, t86_37, t86_38, t86_41, t86_44, t86_46, t86_48, t86_51, t86_54, t86_55, t86_58, t86_59, t86_60, t86_61, t86_62, t86_65, t86_68, t86_69, t86_71, t86_74, t86_77, t86_78, t86_81, t86_82, t86_83, t86_84, t86_85, t86_88, t86_89, t86_90, t86_91, t86_94, t86_97, t86_99, t86_101, t86_104, t86_107, t86_109, t86_111, t86_113, t86_116, t86_119, t86_122, t86_123, t86_126, t86_127, t86_128, t86_129, t86_132, t86_133, t86_134, lk_s, hp_get, hp_set, uH_at, uH_ne, uH_upd, uH_swap, iZ_add, iZ_sub, iZ_mul, iZ_neg, iZ_lt, iZ_le, iZ_eq, iZ_div, iZ_of, ix_Z, gZ_map, gZ_mapI, gZ_map', le_0, le_s, sZ_map, sZ_len, bZ_0, bZ_inj, bZ_t, bZ_f, nr_i, nr_0, nr_1, nr_b, ft_i, ft_b, ft_0, ft_1, zl_0, zl_1, l0, l1, l2, l3, l4, l5, fa, t1, mm, x_tsw, -List.filter_filter, -List.getElem?_map, -List.getD_eq_getElem?_getD]
      · by_cases r3 : rule = 3
        · subst r3
          have e : isT 3 D k D2 l p cm = (litB D k && (litB D2 l && plB (lC D2 l.toNat).2 p)) := rfl
          rw [e]
          have X87 := m87 (d + 1) w N p pr.1 pr.2
          have pq : -2147483648 ≤ plQ p ∧ plQ p < 2147483648 := by unfold plQ; split <;> omega
          refine Xc.of rfl (by simp [lg_sl, Value.category]) ?_ (x_le.rf)
          have hc : c1 (lv_args 0 [.ref 3, .int (iZ 3), .ref (a + 3), .int (iZ k), .ref (b + 3), .int (iZ l), .int (iZ p)]) := by simp [c1, lv_args, Value.category]
          have l0 : x_lk (lv_args 0 [.ref 3, .int (iZ 3), .ref (a + 3), .int (iZ k), .ref (b + 3), .int (iZ l), .int (iZ p)]) 0 = some (.ref 3) := rfl
          have l1 : x_lk (lv_args 0 [.ref 3, .int (iZ 3), .ref (a + 3), .int (iZ k), .ref (b + 3), .int (iZ l), .int (iZ p)]) 1 = some (.int (iZ 3)) := rfl
          have l2 : x_lk (lv_args 0 [.ref 3, .int (iZ 3), .ref (a + 3), .int (iZ k), .ref (b + 3), .int (iZ l), .int (iZ p)]) 2 = some (.ref (a + 3)) := rfl
          have l3 : x_lk (lv_args 0 [.ref 3, .int (iZ 3), .ref (a + 3), .int (iZ k), .ref (b + 3), .int (iZ l), .int (iZ p)]) 3 = some (.int (iZ k)) := rfl
          have l4 : x_lk (lv_args 0 [.ref 3, .int (iZ 3), .ref (a + 3), .int (iZ k), .ref (b + 3), .int (iZ l), .int (iZ p)]) 4 = some (.ref (b + 3)) := rfl
          have l5 : x_lk (lv_args 0 [.ref 3, .int (iZ 3), .ref (a + 3), .int (iZ k), .ref (b + 3), .int (iZ l), .int (iZ p)]) 5 = some (.int (iZ l)) := rfl
          have l6 : x_lk (lv_args 0 [.ref 3, .int (iZ 3), .ref (a + 3), .int (iZ k), .ref (b + 3), .int (iZ l), .int (iZ p)]) 6 = some (.int (iZ p)) := rfl
          generalize lv_args 0 [.ref 3, .int (iZ 3), .ref (a + 3), .int (iZ k), .ref (b + 3), .int (iZ l), .int (iZ p)] = lv at hc l0 l1 l2 l3 l4 l5 l6
          have t1 : (iZ 3).toInt = 3 := by decide
          cases hk : litB D k with
          | false =>
            refine Gx.fin 40 Xk (fun X mm1 => ?_)
            rw [hk, bZ_f] at mm1
            rw [Bool.false_and, bZ_f]
            simp (disch := first | (refine c1_id ?_; assumption) | (refine c1_st rfl ?_; repeat (first | assumption | refine c1_st rfl ?_)) | omega) [nx_l, nx_r, nx_n, x_st, x_push, x_bin, x_div, x_un, x_dup, x_pop, x_dup2, x_goto, x_ifeq, x_ifne, x_iflt, x_ifge, x_ifgt, x_ifle, x_iceq, x_icne, x_iclt, x_icge, x_icgt, x_icle, x_ifnull, x_ifnonnull, x_ldi, x_lda, x_sti, x_sta, x_iinc, x_gf, x_pf, x_ald, x_ast, x_aln, x_len, x_cl_, x_cv, x_cs, x_rc, x_r0, x_isT, x_oi, x_rv, x_ri, x_ra, Value.category, t86_0, t86_1, t86_36, t86_37, t86_38, t86_41, t86_44, t86_46, t86_48, t86_51, t86_54, t86_55, t86_58, t86_59, t86_60, t86_61, t86_62, t86_65, t86_68, t86_69, t86_71, t86_74, t86_77, t86_78, t86_81, t86_82, t86_83, t86_84, t86_85, t86_88, t86_89, t86_90, t86_91, t86_94, t86_97, t86_99, t86_101, t86_104, t86_107, t86_109, t86_111, t86_113, t86_116, t86_119, t86_122, t86_123, t86_126, t86_127, t86_128, t86_129, t86_132, t86_133, t86_134, lk_s, hp_get, hp_set, uH_at, uH_ne, uH_upd, uH_swap, iZ_add, iZ_sub, iZ_mul, iZ_neg, iZ_lt, iZ_le, iZ_eq, iZ_div, iZ_of, ix_Z, gZ_map, gZ_mapI, gZ_map', le_0, le_s, sZ_map, sZ_len, bZ_0, bZ_inj, bZ_t, bZ_f, nr_i, nr_0, nr_1, nr_b, ft_i, ft_b, ft_0, ft_1, zl_0, zl_1, l0, l1, l2, l3, l4, l5, fa, fb, t1, mm1, x_tsw, -List.filter_filter, -List.getElem?_map, -List.getD_eq_getElem?_getD]
          | true =>
            rw [hk, bZ_t] at Xk
            rw [Bool.true_and]
            cases hl : litB D2 l with
            | false =>
              refine Gx.fin 40 (Xk.and Xm) (fun X mm => ?_)
              obtain ⟨mm1, mm2⟩ := mm
              rw [hl, bZ_f] at mm2
              rw [Bool.false_and, bZ_f]
              simp (disch := first | (refine c1_id ?_; assumption) | (refine c1_st rfl ?_; repeat (first | assumption | refine c1_st rfl ?_)) | omega) [nx_l, nx_r, nx_n, x_st, x_push, x_bin, x_div, x_un, x_dup, x_pop, x_dup2, x_goto, x_ifeq, x_ifne, x_iflt, x_ifge, x_ifgt, x_ifle, x_iceq, x_icne, x_iclt, x_icge, x_icgt, x_icle, x_ifnull, x_ifnonnull, x_ldi, x_lda, x_sti, x_sta, x_iinc, x_gf, x_pf, x_ald, x_ast, x_aln, x_len, x_cl_, x_cv, x_cs, x_rc, x_r0, x_isT, x_oi, x_rv, x_ri, x_ra, Value.category, t86_0, t86_1, t86_36, t86_37, t86_38, t86_41, t86_44, t86_46, t86_48, t86_51, t86_54, t86_55, t86_58, t86_59, t86_60, t86_61, t86_62, t86_65, t86_68, t86_69, t86_71, t86_74, t86_77, t86_78, t86_81, t86_82, t86_83, t86_84, t86_85, t86_88, t86_89, t86_90, t86_91, t86_94, t86_97, t86_99, t86_101, t86_104, t86_107, t86_109, t86_111, t86_113, t86_116, t86_119, t86_122, t86_123, t86_126, t86_127, t86_128, t86_129, t86_132, t86_133, t86_134, lk_s, hp_get, hp_set, uH_at, uH_ne, uH_upd, uH_swap, iZ_add, iZ_sub, iZ_mul, iZ_neg, iZ_lt, iZ_le, iZ_eq, iZ_div, iZ_of, ix_Z, gZ_map, gZ_mapI, gZ_map', le_0, le_s, sZ_map, sZ_len, bZ_0, bZ_inj, bZ_t, bZ_f, nr_i, nr_0, nr_1, nr_b, ft_i, ft_b, ft_0, ft_1, zl_0, zl_1, l0, l1, l2, l3, l4, l5, fa, fb, t1, mm1, mm2, x_tsw, -List.filter_filter, -List.getElem?_map, -List.getD_eq_getElem?_getD]
            | true =>
              rw [hl, bZ_t] at Xm
              rw [Bool.true_and]
              obtain ⟨q0, q1⟩ := litB_ok hl
              have X14 := m14 (N := N) (d) g1 g2 g3 g4.gv g5 g6 l.toNat q1 (plQ p) pq
              rw [show ((l.toNat : Nat) : Int) = l by omega] at X14
              have ep : decide (0 ≤ plQ p ∧ 1 + plQ p < ((lC D2 l.toNat).2.length : Int) ∧ 99 ≤ (lC D2 l.toNat).2.getD (1 + plQ p).toNat 0) = plB (lC D2 l.toNat).2 p := by
                unfold plB
                rw [decide_eq_decide]
                have : 0 ≤ plQ p ↔ 0 ≤ p := by unfold plQ; split <;> omega
                rw [this]
              rw [ep] at X14
              refine Gx.fin 60 (((Xk.and Xm).and X87).and X14) (fun X mm => ?_)
              obtain ⟨⟨⟨mm1, mm2⟩, mm3⟩, mm4⟩ := mm
              cases hp_ : plB (lC D2 l.toNat).2 p with
              | false =>
                rw [hp_, bZ_f] at mm4
                rw [bZ_f]
                simp (disch := first | (refine c1_id ?_; assumption) | (refine c1_st rfl ?_; repeat (first | assumption | refine c1_st rfl ?_)) | omega) [nx_l, nx_r, nx_n, x_st, x_push, x_bin, x_div, x_un, x_dup, x_pop, x_dup2, x_goto, x_ifeq, x_ifne, x_iflt, x_ifge, x_ifgt, x_ifle, x_iceq, x_icne, x_iclt, x_icge, x_icgt, x_icle, x_ifnull, x_ifnonnull, x_ldi, x_lda, x_sti, x_sta, x_iinc, x_gf, x_pf, x_ald, x_ast, x_aln, x_len, x_cl_, x_cv, x_cs, x_rc, x_r0, x_isT, x_oi, x_rv, x_ri, x_ra, Value.category, t86_0, t86_1, t86_36, t86_37, t86_38, t86_41, t86_44, t86_46, t86_48, t86_51, t86_54, t86_55, t86_58, t86_59, t86_60, t86_61, t86_62, t86_65, t86_68, t86_69, t86_71, t86_74, t86_77, t86_78, t86_81, t86_82, t86_83, t86_84, t86_85, t86_88, t86_89, t86_90, t86_91, t86_94, t86_97, t86_99, t86_101, t86_104, t86_107, t86_109, t86_111, t86_113, t86_116, t86_119, t86_122, t86_123, t86_126, t86_127, t86_128, t86_129, t86_132, t86_133, t86_134, lk_s, hp_get, hp_set, uH_at, uH_ne, uH_upd, uH_swap, iZ_add, iZ_sub, iZ_mul, iZ_neg, iZ_lt, iZ_le, iZ_eq, iZ_div, iZ_of, ix_Z, gZ_map, gZ_mapI, gZ_map', le_0, le_s, sZ_map, sZ_len, bZ_0, bZ_inj, bZ_t, bZ_f, nr_i, nr_0, nr_1, nr_b, ft_i, ft_b, ft_0, ft_1, zl_0, zl_1, l0, l1, l2, l3, l4, l5, l6, fa, fb, t1, mm1, mm2, mm3, mm4, x_tsw, -List.filter_filter, -List.getElem?_map, -List.getD_eq_getElem?_getD]
              | true =>
                rw [hp_, bZ_t] at mm4
                rw [bZ_t]
                simp (disch := first | (refine c1_id ?_; assumption) | (refine c1_st rfl ?_; repeat (first | assumption | refine c1_st rfl ?_)) | omega) [nx_l, nx_r, nx_n, x_st, x_push, x_bin, x_div, x_un, x_dup, x_pop, x_dup2, x_goto, x_ifeq, x_ifne, x_iflt, x_ifge, x_ifgt, x_ifle, x_iceq, x_icne, x_iclt, x_icge, x_icgt, x_icle, x_ifnull, x_ifnonnull, x_ldi, x_lda, x_sti, x_sta, x_iinc, x_gf, x_pf, x_ald, x_ast, x_aln, x_len, x_cl_, x_cv, x_cs, x_rc, x_r0, x_isT, x_oi, x_rv, x_ri, x_ra, Value.category, t86_0, t86_1, t86_36, t86_37, t86_38, t86_41, t86_44, t86_46, t86_48, t86_51, t86_54, t86_55, t86_58, t86_59, t86_60, t86_61, t86_62, t86_65, t86_68, t86_69, t86_71, t86_74, t86_77, t86_78, t86_81, t86_82, t86_83, t86_84, t86_85, t86_88, t86_89, t86_90, t86_91, t86_94, t86_97, t86_99, t86_101, t86_104, t86_107, t86_109, t86_111, t86_113, t86_116, t86_119, t86_122, t86_123, t86_126, t86_127, t86_128, t86_129, t86_132, t86_133, t86_134, lk_s, hp_get, hp_set, uH_at, uH_ne, uH_upd, uH_swap, iZ_add, iZ_sub, iZ_mul, iZ_neg, iZ_lt, iZ_le, iZ_eq, iZ_div, iZ_of, ix_Z, gZ_map, gZ_mapI, gZ_map', le_0, le_s, sZ_map, sZ_len, bZ_0, bZ_inj, bZ_t, bZ_f, nr_i, nr_0, nr_1, nr_b, ft_i, ft_b, ft_0, ft_1, zl_0, zl_1, l0, l1, l2, l3, l4, l5, l6, fa, fb, t1, mm1, mm2, mm3, mm4, x_tsw, -List.filter_filter, -List.getElem?_map, -List.getD_eq_getElem?_getD]
        · by_cases r4 : rule = 4
          · subst r4
            have e : isT 4 D k D2 l p cm = cm := rfl
            rw [e]
            refine Xc.of rfl (by simp [lg_sl, Value.category]) ?_ (x_le.rf)
            have hc : c1 (lv_args 0 [.ref 3, .int (iZ 4), .ref (a + 3), .int (iZ k), .ref (b + 3), .int (iZ l), .int (iZ p)]) := by simp [c1, lv_args, Value.category]
            have l0 : x_lk (lv_args 0 [.ref 3, .int (iZ 4), .ref (a + 3), .int (iZ k), .ref (b + 3), .int (iZ l), .int (iZ p)]) 0 = some (.ref 3) := rfl
            have l1 : x_lk (lv_args 0 [.ref 3, .int (iZ 4), .ref (a + 3), .int (iZ k), .ref (b + 3), .int (iZ l), .int (iZ p)]) 1 = some (.int (iZ 4)) := rfl
            have l2 : x_lk (lv_args 0 [.ref 3, .int (iZ 4), .ref (a + 3), .int (iZ k), .ref (b + 3), .int (iZ l), .int (iZ p)]) 2 = some (.ref (a + 3)) := rfl
            have l3 : x_lk (lv_args 0 [.ref 3, .int (iZ 4), .ref (a + 3), .int (iZ k), .ref (b + 3), .int (iZ l), .int (iZ p)]) 3 = some (.int (iZ k)) := rfl
            have l4 : x_lk (lv_args 0 [.ref 3, .int (iZ 4), .ref (a + 3), .int (iZ k), .ref (b + 3), .int (iZ l), .int (iZ p)]) 4 = some (.ref (b + 3)) := rfl
            have l5 : x_lk (lv_args 0 [.ref 3, .int (iZ 4), .ref (a + 3), .int (iZ k), .ref (b + 3), .int (iZ l), .int (iZ p)]) 5 = some (.int (iZ l)) := rfl
            have l6 : x_lk (lv_args 0 [.ref 3, .int (iZ 4), .ref (a + 3), .int (iZ k), .ref (b + 3), .int (iZ l), .int (iZ p)]) 6 = some (.int (iZ p)) := rfl
            generalize lv_args 0 [.ref 3, .int (iZ 4), .ref (a + 3), .int (iZ k), .ref (b + 3), .int (iZ l), .int (iZ p)] = lv at hc l0 l1 l2 l3 l4 l5 l6
            refine Gx.fin 40 Cs.tt (fun X _ => ?_)
            have t1 : (iZ 4).toInt = 4 := by decide
            simp (disch := first | (refine c1_id ?_; assumption) | (refine c1_st rfl ?_; repeat (first | assumption | refine c1_st rfl ?_)) | omega) [nx_l, nx_r, nx_n, x_st, x_push, x_bin, x_div, x_un, x_dup, x_pop, x_dup2, x_goto, x_ifeq, x_ifne, x_iflt, x_ifge, x_ifgt, x_ifle, x_iceq, x_icne, x_iclt, x_icge, x_icgt, x_icle, x_ifnull, x_ifnonnull, x_ldi, x_lda, x_sti, x_sta, x_iinc, x_gf, x_pf, x_ald, x_ast, x_aln, x_len, x_cl_, x_cv, x_cs, x_rc, x_r0, x_isT, x_oi, x_rv, x_ri, x_ra, Value.category, t86_0, t86_1, t86_36, t86_37, t86_38, t86_41, t86_44, t86_46, t86_48, t86_51, t86_54, t86_55, t86_58, t86_59, t86_60, t86_61, t86_62, t86_65, t86_68, t86_69, t86_71, t86_74, t86_77, t86_78, t86_81, t86_82, t86_83, t86_84, t86_85, t86_88, t86_89, t86_90, t86_91, t86_94, t86_97, t86_99, t86_101, t86_104, t86_107, t86_109, t86_111, t86_113, t86_116, t86_119, t86_122, t86_123, t86_126, t86_127, t86_128, t86_129, t86_132, t86_133, t86_134, lk_s, hp_get, hp_set, uH_at, uH_ne, uH_upd, uH_swap, iZ_add, iZ_sub, iZ_mul, iZ_neg, iZ_lt, iZ_le, iZ_eq, iZ_div, iZ_of, ix_Z, gZ_map, gZ_mapI, gZ_map', le_0, le_s, sZ_map, sZ_len, bZ_0, bZ_inj, bZ_t, bZ_f, nr_i, nr_0, nr_1, nr_b, ft_i, ft_b, ft_0, ft_1, zl_0, zl_1, l0, l1, h0, t1, x_tsw, dk, -List.filter_filter, -List.getElem?_map, -List.getD_eq_getElem?_getD]
          · have e : isT rule D k D2 l p cm = false := by
              unfold isT
              rw [if_neg r0, if_neg r1, if_neg r2, if_neg r3, if_neg r4]
            rw [e, bZ_f]
            refine Xc.of rfl (by simp [lg_sl, Value.category]) ?_ (x_le.rf)
            have hc : c1 (lv_args 0 [.ref 3, .int (iZ rule), .ref (a + 3), .int (iZ k), .ref (b + 3), .int (iZ l), .int (iZ p)]) := by simp [c1, lv_args, Value.category]
            have l0 : x_lk (lv_args 0 [.ref 3, .int (iZ rule), .ref (a + 3), .int (iZ k), .ref (b + 3), .int (iZ l), .int (iZ p)]) 0 = some (.ref 3) := rfl
            have l1 : x_lk (lv_args 0 [.ref 3, .int (iZ rule), .ref (a + 3), .int (iZ k), .ref (b + 3), .int (iZ l), .int (iZ p)]) 1 = some (.int (iZ rule)) := rfl
            have l2 : x_lk (lv_args 0 [.ref 3, .int (iZ rule), .ref (a + 3), .int (iZ k), .ref (b + 3), .int (iZ l), .int (iZ p)]) 2 = some (.ref (a + 3)) := rfl
            have l3 : x_lk (lv_args 0 [.ref 3, .int (iZ rule), .ref (a + 3), .int (iZ k), .ref (b + 3), .int (iZ l), .int (iZ p)]) 3 = some (.int (iZ k)) := rfl
            have l4 : x_lk (lv_args 0 [.ref 3, .int (iZ rule), .ref (a + 3), .int (iZ k), .ref (b + 3), .int (iZ l), .int (iZ p)]) 4 = some (.ref (b + 3)) := rfl
            have l5 : x_lk (lv_args 0 [.ref 3, .int (iZ rule), .ref (a + 3), .int (iZ k), .ref (b + 3), .int (iZ l), .int (iZ p)]) 5 = some (.int (iZ l)) := rfl
            have l6 : x_lk (lv_args 0 [.ref 3, .int (iZ rule), .ref (a + 3), .int (iZ k), .ref (b + 3), .int (iZ l), .int (iZ p)]) 6 = some (.int (iZ p)) := rfl
            generalize lv_args 0 [.ref 3, .int (iZ rule), .ref (a + 3), .int (iZ k), .ref (b + 3), .int (iZ l), .int (iZ p)] = lv at hc l0 l1 l2 l3 l4 l5 l6
            refine Gx.fin 40 Cs.tt (fun X _ => ?_)
            have t1 : (iZ rule).toInt = rule := iZ_int rr.1 rr.2
            have t2 : rule < 0 ∨ 4 < rule := by omega
            simp (disch := first | (refine c1_id ?_; assumption) | (refine c1_st rfl ?_; repeat (first | assumption | refine c1_st rfl ?_)) | omega) [nx_l, nx_r, nx_n, x_st, x_push, x_bin, x_div, x_un, x_dup, x_pop, x_dup2, x_goto, x_ifeq, x_ifne, x_iflt, x_ifge, x_ifgt, x_ifle, x_iceq, x_icne, x_iclt, x_icge, x_icgt, x_icle, x_ifnull, x_ifnonnull, x_ldi, x_lda, x_sti, x_sta, x_iinc, x_gf, x_pf, x_ald, x_ast, x_aln, x_len, x_cl_, x_cv, x_cs, x_rc, x_r0, x_isT, x_oi, x_rv, x_ri, x_ra, Value.category, t86_0, t86_1, t86_36, t86_37, t86_38, t86_41, t86_44, t86_46, t86_48, t86_51, t86_54, t86_55, t86_58, t86_59, t86_60, t86_61, t86_62, t86_65, t86_68, t86_69, t86_71, t86_74, t86_77, t86_78, t86_81, t86_82, t86_83, t86_84, t86_85, t86_88, t86_89, t86_90, t86_91, t86_94, t86_97, t86_99, t86_101, t86_104, t86_107, t86_109, t86_111, t86_113, t86_116, t86_119, t86_122, t86_123, t86_126, t86_127, t86_128, t86_129, t86_132, t86_133, t86_134, lk_s, hp_get, hp_set, uH_at, uH_ne, uH_upd, uH_swap, iZ_add, iZ_sub, iZ_mul, iZ_neg, iZ_lt, iZ_le, iZ_eq, iZ_div, iZ_of, ix_Z, gZ_map, gZ_mapI, gZ_map', le_0, le_s, sZ_map, sZ_len, bZ_0, bZ_inj, bZ_t, bZ_f, nr_i, nr_0, nr_1, nr_b, ft_i, ft_b, ft_0, ft_1, zl_0, zl_1, l0, l1, t1, t2, x_tsw, -List.filter_filter, -List.getElem?_map, -List.getD_eq_getElem?_getD]
theorem m84_4 (d : Nat) (hN : 53 ≤ N) (ha : 53 ≤ a) {cl_ : Int} (h0 : w 0 = dk cnt cl_ cf lf) {C : List (Int × List Int)} (gE : gC C) (hf : FM w N a S E B D o) (hL : LA w 7 C) (hI : MI w) : ∃ w', Fr ksMa w w' ∧ MI w' ∧ Xc (d + 13) 84 [.ref 3, .int (iZ 4), .ref (a + 3)] (hp w N) (some (.int (iZ (bZ (dfs (mtL D C) C.length D.length 0 (fun _ => []))))), hp w' N) := by
  obtain ⟨w', i1, i2, i3⟩ := m53 d hN ha gE hf hL hI
  have hI' := hI
  obtain ⟨mn, Tm, Bn, q1, q2, q3, q4, q5⟩ := hI'
  refine ⟨w', i1, i2, ?_⟩
  have hle : x_le (hp w N) (hp w' N) := hp_le (Nat.le_refl _) (fun j _ => by
    by_cases hj : j ∈ ksMa
    · obtain ⟨mn', Tm', Bn', k1, k2, k3, k4, k5⟩ := i2
      unfold ksMa at hj
      simp only [List.mem_cons, List.not_mem_nil, or_false] at hj
      rcases hj with rfl | rfl | rfl
      · rw [q1, k1]; simp [x_c1]
      · rw [q2, k2]; simp [x_c1, q3, k3]
      · rw [q4, k4]; simp [x_c1, q5, k5]
    · rw [i1 j hj]
      exact Nat.le_refl _)
  generalize dfs (mtL D C) C.length D.length 0 (fun _ => []) = bb at i3 ⊢
  refine Xc.of rfl (by simp [lg_sl, Value.category]) ?_ (hle)
  have hc : c1 (lv_args 0 [.ref 3, .int (iZ 4), .ref (a + 3)]) := by simp [c1, lv_args, Value.category]
  have l0 : x_lk (lv_args 0 [.ref 3, .int (iZ 4), .ref (a + 3)]) 0 = some (.ref 3) := rfl
  have l1 : x_lk (lv_args 0 [.ref 3, .int (iZ 4), .ref (a + 3)]) 1 = some (.int (iZ 4)) := rfl
  have l2 : x_lk (lv_args 0 [.ref 3, .int (iZ 4), .ref (a + 3)]) 2 = some (.ref (a + 3)) := rfl
  generalize lv_args 0 [.ref 3, .int (iZ 4), .ref (a + 3)] = lv at hc l0 l1 l2
  refine Gx.fin 30 i3 (fun X mm => ?_)
  cases bb with
  | true =>
    rw [bZ_t] at mm ⊢
    simp (disch := first | (refine c1_id ?_; assumption) | (refine c1_st rfl ?_; repeat (first | assumption | refine c1_st rfl ?_)) | omega) [nx_l, nx_r, nx_n, x_st, x_push, x_bin, x_div, x_un, x_dup, x_pop, x_dup2, x_goto, x_ifeq, x_ifne, x_iflt, x_ifge, x_ifgt, x_ifle, x_iceq, x_icne, x_iclt, x_icge, x_icgt, x_icle, x_ifnull, x_ifnonnull, x_ldi, x_lda, x_sti, x_sta, x_iinc, x_gf, x_pf, x_ald, x_ast, x_aln, x_len, x_cl_, x_cv, x_cs, x_rc, x_r0, x_isT, x_oi, x_rv, x_ri, x_ra, Value.category, t84_0, t84_1, t84_2, t84_5, t84_6, t84_9, t84_10, t84_11, t84_14, t84_17, t84_20, t84_21, t84_24, t84_27, t84_28, t84_31, t84_34, lk_s, hp_get, hp_set, uH_at, uH_ne, uH_upd, uH_swap, iZ_add, iZ_sub, iZ_mul, iZ_neg, iZ_lt, iZ_le, iZ_eq, iZ_div, iZ_of, ix_Z, gZ_map, gZ_mapI, gZ_map', le_0, le_s, sZ_map, sZ_len, bZ_0, bZ_inj, bZ_t, bZ_f, nr_i, nr_0, nr_1, nr_b, ft_i, ft_b, ft_0, ft_1, zl_0, zl_1, zl_4, l0, l1, l2, h0, q1, mm, dk, MO, -List.filter_filter, -List.getElem?_map, -List.getD_eq_getElem?_getD]
  | false =>
    rw [bZ_f] at mm ⊢
    simp (disch := first | (refine c1_id ?_; assumption) | (refine c1_st rfl ?_; repeat (first | assumption | refine c1_st rfl ?_)) | omega) [nx_l, nx_r, nx_n, x_st, x_push, x_bin, x_div, x_un, x_dup, x_pop, x_dup2, x_goto, x_ifeq, x_ifne, x_iflt, x_ifge, x_ifgt, x_ifle, x_iceq, x_icne, x_iclt, x_icge, x_icgt, x_icle, x_ifnull, x_ifnonnull, x_ldi, x_lda, x_sti, x_sta, x_iinc, x_gf, x_pf, x_ald, x_ast, x_aln, x_len, x_cl_, x_cv, x_cs, x_rc, x_r0, x_isT, x_oi, x_rv, x_ri, x_ra, Value.category, t84_0, t84_1, t84_2, t84_5, t84_6, t84_9, t84_10, t84_11, t84_14, t84_17, t84_20, t84_21, t84_24, t84_27, t84_28, t84_31, t84_34, lk_s, hp_get, hp_set, uH_at, uH_ne, uH_upd, uH_swap, iZ_add, iZ_sub, iZ_mul, iZ_neg, iZ_lt, iZ_le, iZ_eq, iZ_div, iZ_of, ix_Z, gZ_map, gZ_mapI, gZ_map', le_0, le_s, sZ_map, sZ_len, bZ_0, bZ_inj, bZ_t, bZ_f, nr_i, nr_0, nr_1, nr_b, ft_i, ft_b, ft_0, ft_1, zl_0, zl_1, zl_4, l0, l1, l2, h0, q1, mm, dk, MO, -List.filter_filter, -List.getElem?_map, -List.getD_eq_getElem?_getD]
theorem m84_n (d : Nat) (hN : 53 ≤ N) {cl_ : Int} (h0 : w 0 = dk cnt cl_ cf lf) {q1 q2 q3 q4 q5 q6 : Int} (hd : w 11 = dO q1 q2 q3 q4 q5 q6) {C C' : List (Int × List Int)} (hL : LA w 7 C) (hB : LB w C') (rule : Int) (r0 : 0 ≤ rule) (r3 : rule ≤ 3) : Xc (d + 2) 84 [.ref 3, .int (iZ rule), .ref (a + 3)] (hp w N) (some (.int (iZ (bZ (decide (C' = C))))), hp w N) := by
  obtain ⟨S1, E1, B1, o1, f1, f2, f3, f4, f5, f6, f7, f8⟩ := hB
  obtain ⟨S2, E2, B2, o2, g1, g2, g3, g4, g5, g6, g7, g8⟩ := hL
  have X := m23 (N := N) d f1 ⟨by omega, by omega, by omega, by omega⟩ f5 f6 g1 ⟨by omega, by omega, by omega, by omega⟩ g5 g6 (by omega) (by omega) (by omega) (by omega) (by omega) (by omega)
  have X : Xc (d + 1) 23 [.ref 15, .ref 10] (hp w N) (some (.int (iZ (bZ (decide (C' = C))))), hp w N) := X
  have k12 := f1.1
  generalize decide (C' = C) = bb at X ⊢
  refine Xc.of rfl (by simp [lg_sl, Value.category]) ?_ (x_le.rf)
  have hc : c1 (lv_args 0 [.ref 3, .int (iZ rule), .ref (a + 3)]) := by simp [c1, lv_args, Value.category]
  have l0 : x_lk (lv_args 0 [.ref 3, .int (iZ rule), .ref (a + 3)]) 0 = some (.ref 3) := rfl
  have l1 : x_lk (lv_args 0 [.ref 3, .int (iZ rule), .ref (a + 3)]) 1 = some (.int (iZ rule)) := rfl
  have l2 : x_lk (lv_args 0 [.ref 3, .int (iZ rule), .ref (a + 3)]) 2 = some (.ref (a + 3)) := rfl
  generalize lv_args 0 [.ref 3, .int (iZ rule), .ref (a + 3)] = lv at hc l0 l1 l2
  refine Gx.fin 30 X (fun X mm => ?_)
  have b1 : ¬ rule = 4 := by omega
  cases bb with
  | true =>
    rw [bZ_t] at mm ⊢
    simp (disch := first | (refine c1_id ?_; assumption) | (refine c1_st rfl ?_; repeat (first | assumption | refine c1_st rfl ?_)) | omega) [nx_l, nx_r, nx_n, x_st, x_push, x_bin, x_div, x_un, x_dup, x_pop, x_dup2, x_goto, x_ifeq, x_ifne, x_iflt, x_ifge, x_ifgt, x_ifle, x_iceq, x_icne, x_iclt, x_icge, x_icgt, x_icle, x_ifnull, x_ifnonnull, x_ldi, x_lda, x_sti, x_sta, x_iinc, x_gf, x_pf, x_ald, x_ast, x_aln, x_len, x_cl_, x_cv, x_cs, x_rc, x_r0, x_isT, x_oi, x_rv, x_ri, x_ra, Value.category, t84_0, t84_1, t84_2, t84_5, t84_6, t84_9, t84_10, t84_11, t84_14, t84_17, t84_20, t84_21, t84_24, t84_27, t84_28, t84_31, t84_34, lk_s, hp_get, hp_set, uH_at, uH_ne, uH_upd, uH_swap, iZ_add, iZ_sub, iZ_mul, iZ_neg, iZ_lt, iZ_le, iZ_eq, iZ_div, iZ_of, ix_Z, gZ_map, gZ_mapI, gZ_map', le_0, le_s, sZ_map, sZ_len, bZ_0, bZ_inj, bZ_t, bZ_f, nr_i, nr_0, nr_1, nr_b, ft_i, ft_b, ft_0, ft_1, zl_0, zl_1, zl_4, l0, l1, l2, h0, hd, k12, b1, mm, dk, dO, -List.filter_filter, -List.getElem?_map, -List.getD_eq_getElem?_getD]
  | false =>
    rw [bZ_f] at mm ⊢
    simp (disch := first | (refine c1_id ?_; assumption) | (refine c1_st rfl ?_; repeat (first | assumption | refine c1_st rfl ?_)) | omega) [nx_l, nx_r, nx_n, x_st, x_push, x_bin, x_div, x_un, x_dup, x_pop, x_dup2, x_goto, x_ifeq, x_ifne, x_iflt, x_ifge, x_ifgt, x_ifle, x_iceq, x_icne, x_iclt, x_icge, x_icgt, x_icle, x_ifnull, x_ifnonnull, x_ldi, x_lda, x_sti, x_sta, x_iinc, x_gf, x_pf, x_ald, x_ast, x_aln, x_len, x_cl_, x_cv, x_cs, x_rc, x_r0, x_isT, x_oi, x_rv, x_ri, x_ra, Value.category, t84_0, t84_1, t84_2, t84_5, t84_6, t84_9, t84_10, t84_11, t84_14, t84_17, t84_20, t84_21, t84_24, t84_27, t84_28, t84_31, t84_34, lk_s, hp_get, hp_set, uH_at, uH_ne, uH_upd, uH_swap, iZ_add, iZ_sub, iZ_mul, iZ_neg, iZ_lt, iZ_le, iZ_eq, iZ_div, iZ_of, ix_Z, gZ_map, gZ_mapI, gZ_map', le_0, le_s, sZ_map, sZ_len, bZ_0, bZ_inj, bZ_t, bZ_f, nr_i, nr_0, nr_1, nr_b, ft_i, ft_b, ft_0, ft_1, zl_0, zl_1, zl_4, l0, l1, l2, h0, hd, k12, b1, mm, dk, dO, -List.filter_filter, -List.getElem?_map, -List.getD_eq_getElem?_getD]
end ITH
