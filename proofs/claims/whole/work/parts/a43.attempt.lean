/-! the class: a step is tried -/
theorem f83_0 : x_fetch q_k83 0 = x_lda 1 0 := rfl
theorem t83_0 (C : xF) (s n : Nat) (z : xS) : x_to q_k83 C s (n + 1) 0 z = x_nx q_k83 C s n ((x_lda 1 0) C z) := x_to_at f83_0 C s n z
theorem f83_1 : x_fetch q_k83 1 = x_gf 4 0 2 := rfl
theorem t83_1 (C : xF) (s n : Nat) (z : xS) : x_to q_k83 C s (n + 1) 1 z = x_nx q_k83 C s n ((x_gf 4 0 2) C z) := x_to_at f83_1 C s n z
theorem f83_4 : x_fetch q_k83 4 = x_st (x_push 6 (.int (30))) := rfl
theorem t83_4 (C : xF) (s n : Nat) (z : xS) : x_to q_k83 C s (n + 1) 4 z = x_nx q_k83 C s n ((x_st (x_push 6 (.int (30)))) C z) := x_to_at f83_4 C s n z
theorem f83_6 : x_fetch q_k83 6 = x_st (x_iclt 12 9) := rfl
theorem t83_6 (C : xF) (s n : Nat) (z : xS) : x_to q_k83 C s (n + 1) 6 z = x_nx q_k83 C s n ((x_st (x_iclt 12 9)) C z) := x_to_at f83_6 C s n z
theorem f83_9 : x_fetch q_k83 9 = x_st (x_push 11 (.int (-3))) := rfl
theorem t83_9 (C : xF) (s n : Nat) (z : xS) : x_to q_k83 C s (n + 1) 9 z = x_nx q_k83 C s n ((x_st (x_push 11 (.int (-3)))) C z) := x_to_at f83_9 C s n z
theorem f83_11 : x_fetch q_k83 11 = x_ri (.int) := rfl
theorem t83_11 (C : xF) (s n : Nat) (z : xS) : x_to q_k83 C s (n + 1) 11 z = x_nx q_k83 C s n ((x_ri (.int)) C z) := x_to_at f83_11 C s n z
theorem f83_12 : x_fetch q_k83 12 = x_lda 13 0 := rfl
theorem t83_12 (C : xF) (s n : Nat) (z : xS) : x_to q_k83 C s (n + 1) 12 z = x_nx q_k83 C s n ((x_lda 13 0) C z) := x_to_at f83_12 C s n z
theorem f83_13 : x_fetch q_k83 13 = x_ldi 14 2 := rfl
theorem t83_13 (C : xF) (s n : Nat) (z : xS) : x_to q_k83 C s (n + 1) 13 z = x_nx q_k83 C s n ((x_ldi 14 2) C z) := x_to_at f83_13 C s n z
theorem f83_14 : x_fetch q_k83 14 = x_cv 17 81 2 0 := rfl
theorem t83_14 (C : xF) (s n : Nat) (z : xS) : x_to q_k83 C s (n + 1) 14 z = x_nx q_k83 C s n ((x_cv 17 81 2 0) C z) := x_to_at f83_14 C s n z
theorem f83_17 : x_fetch q_k83 17 = x_sta 19 7 := rfl
theorem t83_17 (C : xF) (s n : Nat) (z : xS) : x_to q_k83 C s (n + 1) 17 z = x_nx q_k83 C s n ((x_sta 19 7) C z) := x_to_at f83_17 C s n z
theorem f83_19 : x_fetch q_k83 19 = x_ldi 20 1 := rfl
theorem t83_19 (C : xF) (s n : Nat) (z : xS) : x_to q_k83 C s (n + 1) 19 z = x_nx q_k83 C s n ((x_ldi 20 1) C z) := x_to_at f83_19 C s n z
theorem f83_20 : x_fetch q_k83 20 = x_cl_ 23 85 1 := rfl
theorem t83_20 (C : xF) (s n : Nat) (z : xS) : x_to q_k83 C s (n + 1) 20 z = x_nx q_k83 C s n ((x_cl_ 23 85 1) C z) := x_to_at f83_20 C s n z
theorem f83_23 : x_fetch q_k83 23 = x_st (x_ifeq 35 26) := rfl
theorem t83_23 (C : xF) (s n : Nat) (z : xS) : x_to q_k83 C s (n + 1) 23 z = x_nx q_k83 C s n ((x_st (x_ifeq 35 26)) C z) := x_to_at f83_23 C s n z
theorem f83_26 : x_fetch q_k83 26 = x_lda 27 0 := rfl
theorem t83_26 (C : xF) (s n : Nat) (z : xS) : x_to q_k83 C s (n + 1) 26 z = x_nx q_k83 C s n ((x_lda 27 0) C z) := x_to_at f83_26 C s n z
theorem f83_27 : x_fetch q_k83 27 = x_ldi 29 4 := rfl
theorem t83_27 (C : xF) (s n : Nat) (z : xS) : x_to q_k83 C s (n + 1) 27 z = x_nx q_k83 C s n ((x_ldi 29 4) C z) := x_to_at f83_27 C s n z
theorem f83_29 : x_fetch q_k83 29 = x_cv 32 81 2 0 := rfl
theorem t83_29 (C : xF) (s n : Nat) (z : xS) : x_to q_k83 C s (n + 1) 29 z = x_nx q_k83 C s n ((x_cv 32 81 2 0) C z) := x_to_at f83_29 C s n z
theorem f83_32 : x_fetch q_k83 32 = x_st (x_goto 37) := rfl
theorem t83_32 (C : xF) (s n : Nat) (z : xS) : x_to q_k83 C s (n + 1) 32 z = x_nx q_k83 C s n ((x_st (x_goto 37)) C z) := x_to_at f83_32 C s n z
theorem f83_35 : x_fetch q_k83 35 = x_lda 37 7 := rfl
theorem t83_35 (C : xF) (s n : Nat) (z : xS) : x_to q_k83 C s (n + 1) 35 z = x_nx q_k83 C s n ((x_lda 37 7) C z) := x_to_at f83_35 C s n z
theorem f83_37 : x_fetch q_k83 37 = x_sta 39 8 := rfl
theorem t83_37 (C : xF) (s n : Nat) (z : xS) : x_to q_k83 C s (n + 1) 37 z = x_nx q_k83 C s n ((x_sta 39 8) C z) := x_to_at f83_37 C s n z
theorem f83_39 : x_fetch q_k83 39 = x_lda 41 7 := rfl
theorem t83_39 (C : xF) (s n : Nat) (z : xS) : x_to q_k83 C s (n + 1) 39 z = x_nx q_k83 C s n ((x_lda 41 7) C z) := x_to_at f83_39 C s n z
theorem f83_41 : x_fetch q_k83 41 = x_st (x_ifnull 72 44) := rfl
theorem t83_41 (C : xF) (s n : Nat) (z : xS) : x_to q_k83 C s (n + 1) 41 z = x_nx q_k83 C s n ((x_st (x_ifnull 72 44)) C z) := x_to_at f83_41 C s n z
theorem f83_44 : x_fetch q_k83 44 = x_lda 46 8 := rfl
theorem t83_44 (C : xF) (s n : Nat) (z : xS) : x_to q_k83 C s (n + 1) 44 z = x_nx q_k83 C s n ((x_lda 46 8) C z) := x_to_at f83_44 C s n z
theorem f83_46 : x_fetch q_k83 46 = x_st (x_ifnull 72 49) := rfl
theorem t83_46 (C : xF) (s n : Nat) (z : xS) : x_to q_k83 C s (n + 1) 46 z = x_nx q_k83 C s n ((x_st (x_ifnull 72 49)) C z) := x_to_at f83_46 C s n z
theorem f83_49 : x_fetch q_k83 49 = x_lda 50 0 := rfl
theorem t83_49 (C : xF) (s n : Nat) (z : xS) : x_to q_k83 C s (n + 1) 49 z = x_nx q_k83 C s n ((x_lda 50 0) C z) := x_to_at f83_49 C s n z
theorem f83_50 : x_fetch q_k83 50 = x_ldi 51 1 := rfl
theorem t83_50 (C : xF) (s n : Nat) (z : xS) : x_to q_k83 C s (n + 1) 50 z = x_nx q_k83 C s n ((x_ldi 51 1) C z) := x_to_at f83_50 C s n z
theorem f83_51 : x_fetch q_k83 51 = x_lda 53 7 := rfl
theorem t83_51 (C : xF) (s n : Nat) (z : xS) : x_to q_k83 C s (n + 1) 51 z = x_nx q_k83 C s n ((x_lda 53 7) C z) := x_to_at f83_51 C s n z
theorem f83_53 : x_fetch q_k83 53 = x_gf 56 1 0 := rfl
theorem t83_53 (C : xF) (s n : Nat) (z : xS) : x_to q_k83 C s (n + 1) 53 z = x_nx q_k83 C s n ((x_gf 56 1 0) C z) := x_to_at f83_53 C s n z
theorem f83_56 : x_fetch q_k83 56 = x_ldi 57 3 := rfl
theorem t83_56 (C : xF) (s n : Nat) (z : xS) : x_to q_k83 C s (n + 1) 56 z = x_nx q_k83 C s n ((x_ldi 57 3) C z) := x_to_at f83_56 C s n z
theorem f83_57 : x_fetch q_k83 57 = x_lda 59 8 := rfl
theorem t83_57 (C : xF) (s n : Nat) (z : xS) : x_to q_k83 C s (n + 1) 57 z = x_nx q_k83 C s n ((x_lda 59 8) C z) := x_to_at f83_57 C s n z
theorem f83_59 : x_fetch q_k83 59 = x_gf 62 1 0 := rfl
theorem t83_59 (C : xF) (s n : Nat) (z : xS) : x_to q_k83 C s (n + 1) 59 z = x_nx q_k83 C s n ((x_gf 62 1 0) C z) := x_to_at f83_59 C s n z
theorem f83_62 : x_fetch q_k83 62 = x_ldi 64 5 := rfl
theorem t83_62 (C : xF) (s n : Nat) (z : xS) : x_to q_k83 C s (n + 1) 62 z = x_nx q_k83 C s n ((x_ldi 64 5) C z) := x_to_at f83_62 C s n z
theorem f83_64 : x_fetch q_k83 64 = x_ldi 66 6 := rfl
theorem t83_64 (C : xF) (s n : Nat) (z : xS) : x_to q_k83 C s (n + 1) 64 z = x_nx q_k83 C s n ((x_ldi 66 6) C z) := x_to_at f83_64 C s n z
theorem f83_66 : x_fetch q_k83 66 = x_cv 69 86 7 0 := rfl
theorem t83_66 (C : xF) (s n : Nat) (z : xS) : x_to q_k83 C s (n + 1) 66 z = x_nx q_k83 C s n ((x_cv 69 86 7 0) C z) := x_to_at f83_66 C s n z
theorem f83_69 : x_fetch q_k83 69 = x_st (x_ifne 75 72) := rfl
theorem t83_69 (C : xF) (s n : Nat) (z : xS) : x_to q_k83 C s (n + 1) 69 z = x_nx q_k83 C s n ((x_st (x_ifne 75 72)) C z) := x_to_at f83_69 C s n z
theorem f83_72 : x_fetch q_k83 72 = x_st (x_push 74 (.int (-4))) := rfl
theorem t83_72 (C : xF) (s n : Nat) (z : xS) : x_to q_k83 C s (n + 1) 72 z = x_nx q_k83 C s n ((x_st (x_push 74 (.int (-4)))) C z) := x_to_at f83_72 C s n z
theorem f83_74 : x_fetch q_k83 74 = x_ri (.int) := rfl
theorem t83_74 (C : xF) (s n : Nat) (z : xS) : x_to q_k83 C s (n + 1) 74 z = x_nx q_k83 C s n ((x_ri (.int)) C z) := x_to_at f83_74 C s n z
theorem f83_75 : x_fetch q_k83 75 = x_lda 76 0 := rfl
theorem t83_75 (C : xF) (s n : Nat) (z : xS) : x_to q_k83 C s (n + 1) 75 z = x_nx q_k83 C s n ((x_lda 76 0) C z) := x_to_at f83_75 C s n z
theorem f83_76 : x_fetch q_k83 76 = x_gf 79 0 5 := rfl
theorem t83_76 (C : xF) (s n : Nat) (z : xS) : x_to q_k83 C s (n + 1) 76 z = x_nx q_k83 C s n ((x_gf 79 0 5) C z) := x_to_at f83_76 C s n z
theorem f83_79 : x_fetch q_k83 79 = x_st (x_ifeq 94 82) := rfl
theorem t83_79 (C : xF) (s n : Nat) (z : xS) : x_to q_k83 C s (n + 1) 79 z = x_nx q_k83 C s n ((x_st (x_ifeq 94 82)) C z) := x_to_at f83_79 C s n z
theorem f83_82 : x_fetch q_k83 82 = x_lda 83 0 := rfl
theorem t83_82 (C : xF) (s n : Nat) (z : xS) : x_to q_k83 C s (n + 1) 82 z = x_nx q_k83 C s n ((x_lda 83 0) C z) := x_to_at f83_82 C s n z
theorem f83_83 : x_fetch q_k83 83 = x_gf 86 0 6 := rfl
theorem t83_83 (C : xF) (s n : Nat) (z : xS) : x_to q_k83 C s (n + 1) 83 z = x_nx q_k83 C s n ((x_gf 86 0 6) C z) := x_to_at f83_83 C s n z
theorem f83_86 : x_fetch q_k83 86 = x_st (x_ifeq 94 89) := rfl
theorem t83_86 (C : xF) (s n : Nat) (z : xS) : x_to q_k83 C s (n + 1) 86 z = x_nx q_k83 C s n ((x_st (x_ifeq 94 89)) C z) := x_to_at f83_86 C s n z
theorem f83_89 : x_fetch q_k83 89 = x_lda 90 0 := rfl
theorem t83_89 (C : xF) (s n : Nat) (z : xS) : x_to q_k83 C s (n + 1) 89 z = x_nx q_k83 C s n ((x_lda 90 0) C z) := x_to_at f83_89 C s n z
theorem f83_90 : x_fetch q_k83 90 = x_gf 93 0 6 := rfl
theorem t83_90 (C : xF) (s n : Nat) (z : xS) : x_to q_k83 C s (n + 1) 90 z = x_nx q_k83 C s n ((x_gf 93 0 6) C z) := x_to_at f83_90 C s n z
theorem f83_93 : x_fetch q_k83 93 = x_ri (.int) := rfl
theorem t83_93 (C : xF) (s n : Nat) (z : xS) : x_to q_k83 C s (n + 1) 93 z = x_nx q_k83 C s n ((x_ri (.int)) C z) := x_to_at f83_93 C s n z
theorem f83_94 : x_fetch q_k83 94 = x_ldi 95 1 := rfl
theorem t83_94 (C : xF) (s n : Nat) (z : xS) : x_to q_k83 C s (n + 1) 94 z = x_nx q_k83 C s n ((x_ldi 95 1) C z) := x_to_at f83_94 C s n z
theorem f83_95 : x_fetch q_k83 95 = x_st (x_push 96 (.int (4))) := rfl
theorem t83_95 (C : xF) (s n : Nat) (z : xS) : x_to q_k83 C s (n + 1) 95 z = x_nx q_k83 C s n ((x_st (x_push 96 (.int (4)))) C z) := x_to_at f83_95 C s n z
theorem f83_96 : x_fetch q_k83 96 = x_st (x_icne 103 99) := rfl
theorem t83_96 (C : xF) (s n : Nat) (z : xS) : x_to q_k83 C s (n + 1) 96 z = x_nx q_k83 C s n ((x_st (x_icne 103 99)) C z) := x_to_at f83_96 C s n z
theorem f83_99 : x_fetch q_k83 99 = x_st (x_push 100 (.int (0))) := rfl
theorem t83_99 (C : xF) (s n : Nat) (z : xS) : x_to q_k83 C s (n + 1) 99 z = x_nx q_k83 C s n ((x_st (x_push 100 (.int (0)))) C z) := x_to_at f83_99 C s n z
theorem f83_100 : x_fetch q_k83 100 = x_st (x_goto 126) := rfl
theorem t83_100 (C : xF) (s n : Nat) (z : xS) : x_to q_k83 C s (n + 1) 100 z = x_nx q_k83 C s n ((x_st (x_goto 126)) C z) := x_to_at f83_100 C s n z
theorem f83_103 : x_fetch q_k83 103 = x_lda 104 0 := rfl
theorem t83_103 (C : xF) (s n : Nat) (z : xS) : x_to q_k83 C s (n + 1) 103 z = x_nx q_k83 C s n ((x_lda 104 0) C z) := x_to_at f83_103 C s n z
theorem f83_104 : x_fetch q_k83 104 = x_gf 107 0 7 := rfl
theorem t83_104 (C : xF) (s n : Nat) (z : xS) : x_to q_k83 C s (n + 1) 104 z = x_nx q_k83 C s n ((x_gf 107 0 7) C z) := x_to_at f83_104 C s n z
theorem f83_107 : x_fetch q_k83 107 = x_ldi 108 1 := rfl
theorem t83_107 (C : xF) (s n : Nat) (z : xS) : x_to q_k83 C s (n + 1) 107 z = x_nx q_k83 C s n ((x_ldi 108 1) C z) := x_to_at f83_107 C s n z
theorem f83_108 : x_fetch q_k83 108 = x_lda 110 7 := rfl
theorem t83_108 (C : xF) (s n : Nat) (z : xS) : x_to q_k83 C s (n + 1) 108 z = x_nx q_k83 C s n ((x_lda 110 7) C z) := x_to_at f83_108 C s n z
theorem f83_110 : x_fetch q_k83 110 = x_gf 113 1 0 := rfl
theorem t83_110 (C : xF) (s n : Nat) (z : xS) : x_to q_k83 C s (n + 1) 110 z = x_nx q_k83 C s n ((x_gf 113 1 0) C z) := x_to_at f83_110 C s n z
theorem f83_113 : x_fetch q_k83 113 = x_ldi 114 3 := rfl
theorem t83_113 (C : xF) (s n : Nat) (z : xS) : x_to q_k83 C s (n + 1) 113 z = x_nx q_k83 C s n ((x_ldi 114 3) C z) := x_to_at f83_113 C s n z
theorem f83_114 : x_fetch q_k83 114 = x_lda 116 8 := rfl
theorem t83_114 (C : xF) (s n : Nat) (z : xS) : x_to q_k83 C s (n + 1) 114 z = x_nx q_k83 C s n ((x_lda 116 8) C z) := x_to_at f83_114 C s n z
theorem f83_116 : x_fetch q_k83 116 = x_gf 119 1 0 := rfl
theorem t83_116 (C : xF) (s n : Nat) (z : xS) : x_to q_k83 C s (n + 1) 116 z = x_nx q_k83 C s n ((x_gf 119 1 0) C z) := x_to_at f83_116 C s n z
theorem f83_119 : x_fetch q_k83 119 = x_ldi 121 5 := rfl
theorem t83_119 (C : xF) (s n : Nat) (z : xS) : x_to q_k83 C s (n + 1) 119 z = x_nx q_k83 C s n ((x_ldi 121 5) C z) := x_to_at f83_119 C s n z
theorem f83_121 : x_fetch q_k83 121 = x_ldi 123 6 := rfl
theorem t83_121 (C : xF) (s n : Nat) (z : xS) : x_to q_k83 C s (n + 1) 121 z = x_nx q_k83 C s n ((x_ldi 123 6) C z) := x_to_at f83_121 C s n z
theorem f83_123 : x_fetch q_k83 123 = x_cv 126 59 7 2 := rfl
theorem t83_123 (C : xF) (s n : Nat) (z : xS) : x_to q_k83 C s (n + 1) 123 z = x_nx q_k83 C s n ((x_cv 126 59 7 2) C z) := x_to_at f83_123 C s n z
theorem f83_126 : x_fetch q_k83 126 = x_sti 128 9 := rfl
theorem t83_126 (C : xF) (s n : Nat) (z : xS) : x_to q_k83 C s (n + 1) 126 z = x_nx q_k83 C s n ((x_sti 128 9) C z) := x_to_at f83_126 C s n z
theorem f83_128 : x_fetch q_k83 128 = x_ldi 130 9 := rfl
theorem t83_128 (C : xF) (s n : Nat) (z : xS) : x_to q_k83 C s (n + 1) 128 z = x_nx q_k83 C s n ((x_ldi 130 9) C z) := x_to_at f83_128 C s n z
theorem f83_130 : x_fetch q_k83 130 = x_st (x_ifeq 136 133) := rfl
theorem t83_130 (C : xF) (s n : Nat) (z : xS) : x_to q_k83 C s (n + 1) 130 z = x_nx q_k83 C s n ((x_st (x_ifeq 136 133)) C z) := x_to_at f83_130 C s n z
theorem f83_133 : x_fetch q_k83 133 = x_ldi 135 9 := rfl
theorem t83_133 (C : xF) (s n : Nat) (z : xS) : x_to q_k83 C s (n + 1) 133 z = x_nx q_k83 C s n ((x_ldi 135 9) C z) := x_to_at f83_133 C s n z
theorem f83_135 : x_fetch q_k83 135 = x_ri (.int) := rfl
theorem t83_135 (C : xF) (s n : Nat) (z : xS) : x_to q_k83 C s (n + 1) 135 z = x_nx q_k83 C s n ((x_ri (.int)) C z) := x_to_at f83_135 C s n z
theorem f83_136 : x_fetch q_k83 136 = x_lda 137 0 := rfl
theorem t83_136 (C : xF) (s n : Nat) (z : xS) : x_to q_k83 C s (n + 1) 136 z = x_nx q_k83 C s n ((x_lda 137 0) C z) := x_to_at f83_136 C s n z
theorem f83_137 : x_fetch q_k83 137 = x_gf 140 0 5 := rfl
theorem t83_137 (C : xF) (s n : Nat) (z : xS) : x_to q_k83 C s (n + 1) 137 z = x_nx q_k83 C s n ((x_gf 140 0 5) C z) := x_to_at f83_137 C s n z
theorem f83_140 : x_fetch q_k83 140 = x_st (x_ifeq 159 143) := rfl
theorem t83_140 (C : xF) (s n : Nat) (z : xS) : x_to q_k83 C s (n + 1) 140 z = x_nx q_k83 C s n ((x_st (x_ifeq 159 143)) C z) := x_to_at f83_140 C s n z
theorem f83_143 : x_fetch q_k83 143 = x_lda 144 0 := rfl
theorem t83_143 (C : xF) (s n : Nat) (z : xS) : x_to q_k83 C s (n + 1) 143 z = x_nx q_k83 C s n ((x_lda 144 0) C z) := x_to_at f83_143 C s n z
theorem f83_144 : x_fetch q_k83 144 = x_ldi 145 1 := rfl
theorem t83_144 (C : xF) (s n : Nat) (z : xS) : x_to q_k83 C s (n + 1) 144 z = x_nx q_k83 C s n ((x_ldi 145 1) C z) := x_to_at f83_144 C s n z
theorem f83_145 : x_fetch q_k83 145 = x_lda 147 7 := rfl
theorem t83_145 (C : xF) (s n : Nat) (z : xS) : x_to q_k83 C s (n + 1) 145 z = x_nx q_k83 C s n ((x_lda 147 7) C z) := x_to_at f83_145 C s n z
theorem f83_147 : x_fetch q_k83 147 = x_gf 150 1 0 := rfl
theorem t83_147 (C : xF) (s n : Nat) (z : xS) : x_to q_k83 C s (n + 1) 147 z = x_nx q_k83 C s n ((x_gf 150 1 0) C z) := x_to_at f83_147 C s n z
theorem f83_150 : x_fetch q_k83 150 = x_cv 153 84 3 0 := rfl
theorem t83_150 (C : xF) (s n : Nat) (z : xS) : x_to q_k83 C s (n + 1) 150 z = x_nx q_k83 C s n ((x_cv 153 84 3 0) C z) := x_to_at f83_150 C s n z
theorem f83_153 : x_fetch q_k83 153 = x_st (x_ifne 159 156) := rfl
theorem t83_153 (C : xF) (s n : Nat) (z : xS) : x_to q_k83 C s (n + 1) 153 z = x_nx q_k83 C s n ((x_st (x_ifne 159 156)) C z) := x_to_at f83_153 C s n z
theorem f83_156 : x_fetch q_k83 156 = x_st (x_push 158 (.int (-8))) := rfl
theorem t83_156 (C : xF) (s n : Nat) (z : xS) : x_to q_k83 C s (n + 1) 156 z = x_nx q_k83 C s n ((x_st (x_push 158 (.int (-8)))) C z) := x_to_at f83_156 C s n z
theorem f83_158 : x_fetch q_k83 158 = x_ri (.int) := rfl
theorem t83_158 (C : xF) (s n : Nat) (z : xS) : x_to q_k83 C s (n + 1) 158 z = x_nx q_k83 C s n ((x_ri (.int)) C z) := x_to_at f83_158 C s n z
theorem f83_159 : x_fetch q_k83 159 = x_ldi 160 1 := rfl
theorem t83_159 (C : xF) (s n : Nat) (z : xS) : x_to q_k83 C s (n + 1) 159 z = x_nx q_k83 C s n ((x_ldi 160 1) C z) := x_to_at f83_159 C s n z
theorem f83_160 : x_fetch q_k83 160 = x_st (x_push 161 (.int (4))) := rfl
theorem t83_160 (C : xF) (s n : Nat) (z : xS) : x_to q_k83 C s (n + 1) 160 z = x_nx q_k83 C s n ((x_st (x_push 161 (.int (4)))) C z) := x_to_at f83_160 C s n z
theorem f83_161 : x_fetch q_k83 161 = x_st (x_icne 171 164) := rfl
theorem t83_161 (C : xF) (s n : Nat) (z : xS) : x_to q_k83 C s (n + 1) 161 z = x_nx q_k83 C s n ((x_st (x_icne 171 164)) C z) := x_to_at f83_161 C s n z
theorem f83_164 : x_fetch q_k83 164 = x_lda 165 0 := rfl
theorem t83_164 (C : xF) (s n : Nat) (z : xS) : x_to q_k83 C s (n + 1) 164 z = x_nx q_k83 C s n ((x_lda 165 0) C z) := x_to_at f83_164 C s n z
theorem f83_165 : x_fetch q_k83 165 = x_gf 168 0 4 := rfl
theorem t83_165 (C : xF) (s n : Nat) (z : xS) : x_to q_k83 C s (n + 1) 165 z = x_nx q_k83 C s n ((x_gf 168 0 4) C z) := x_to_at f83_165 C s n z
theorem f83_168 : x_fetch q_k83 168 = x_st (x_goto 178) := rfl
theorem t83_168 (C : xF) (s n : Nat) (z : xS) : x_to q_k83 C s (n + 1) 168 z = x_nx q_k83 C s n ((x_st (x_goto 178)) C z) := x_to_at f83_168 C s n z
theorem f83_171 : x_fetch q_k83 171 = x_lda 172 0 := rfl
theorem t83_171 (C : xF) (s n : Nat) (z : xS) : x_to q_k83 C s (n + 1) 171 z = x_nx q_k83 C s n ((x_lda 172 0) C z) := x_to_at f83_171 C s n z
theorem f83_172 : x_fetch q_k83 172 = x_gf 175 0 7 := rfl
theorem t83_172 (C : xF) (s n : Nat) (z : xS) : x_to q_k83 C s (n + 1) 172 z = x_nx q_k83 C s n ((x_gf 175 0 7) C z) := x_to_at f83_172 C s n z
theorem f83_175 : x_fetch q_k83 175 = x_gf 178 2 0 := rfl
theorem t83_175 (C : xF) (s n : Nat) (z : xS) : x_to q_k83 C s (n + 1) 175 z = x_nx q_k83 C s n ((x_gf 178 2 0) C z) := x_to_at f83_175 C s n z
theorem f83_178 : x_fetch q_k83 178 = x_sta 180 10 := rfl
theorem t83_178 (C : xF) (s n : Nat) (z : xS) : x_to q_k83 C s (n + 1) 178 z = x_nx q_k83 C s n ((x_sta 180 10) C z) := x_to_at f83_178 C s n z
theorem f83_180 : x_fetch q_k83 180 = x_lda 181 0 := rfl
theorem t83_180 (C : xF) (s n : Nat) (z : xS) : x_to q_k83 C s (n + 1) 180 z = x_nx q_k83 C s n ((x_lda 181 0) C z) := x_to_at f83_180 C s n z
theorem f83_181 : x_fetch q_k83 181 = x_lda 183 10 := rfl
theorem t83_181 (C : xF) (s n : Nat) (z : xS) : x_to q_k83 C s (n + 1) 181 z = x_nx q_k83 C s n ((x_lda 183 10) C z) := x_to_at f83_181 C s n z
theorem f83_183 : x_fetch q_k83 183 = x_st (x_push 184 (.int (1))) := rfl
theorem t83_183 (C : xF) (s n : Nat) (z : xS) : x_to q_k83 C s (n + 1) 183 z = x_nx q_k83 C s n ((x_st (x_push 184 (.int (1)))) C z) := x_to_at f83_183 C s n z
theorem f83_184 : x_fetch q_k83 184 = x_lda 186 7 := rfl
theorem t83_184 (C : xF) (s n : Nat) (z : xS) : x_to q_k83 C s (n + 1) 184 z = x_nx q_k83 C s n ((x_lda 186 7) C z) := x_to_at f83_184 C s n z
set_option maxRecDepth 20000 in
theorem f83_186 : x_fetch q_k83 186 = x_gf 189 1 1 := rfl
theorem t83_186 (C : xF) (s n : Nat) (z : xS) : x_to q_k83 C s (n + 1) 186 z = x_nx q_k83 C s n ((x_gf 189 1 1) C z) := x_to_at f83_186 C s n z
set_option maxRecDepth 20000 in
theorem f83_189 : x_fetch q_k83 189 = x_lda 191 8 := rfl
theorem t83_189 (C : xF) (s n : Nat) (z : xS) : x_to q_k83 C s (n + 1) 189 z = x_nx q_k83 C s n ((x_lda 191 8) C z) := x_to_at f83_189 C s n z
set_option maxRecDepth 20000 in
theorem f83_191 : x_fetch q_k83 191 = x_gf 194 1 1 := rfl
theorem t83_191 (C : xF) (s n : Nat) (z : xS) : x_to q_k83 C s (n + 1) 191 z = x_nx q_k83 C s n ((x_gf 194 1 1) C z) := x_to_at f83_191 C s n z
set_option maxRecDepth 20000 in
theorem f83_194 : x_fetch q_k83 194 = x_st (x_mm 197 (fun a b => if a < b then b else a)) := rfl
theorem t83_194 (C : xF) (s n : Nat) (z : xS) : x_to q_k83 C s (n + 1) 194 z = x_nx q_k83 C s n ((x_st (x_mm 197 (fun a b => if a < b then b else a))) C z) := x_to_at f83_194 C s n z
set_option maxRecDepth 20000 in
theorem f83_197 : x_fetch q_k83 197 = x_st (x_bin 198 (fun a b => a + b)) := rfl
theorem t83_197 (C : xF) (s n : Nat) (z : xS) : x_to q_k83 C s (n + 1) 197 z = x_nx q_k83 C s n ((x_st (x_bin 198 (fun a b => a + b))) C z) := x_to_at f83_197 C s n z
set_option maxRecDepth 20000 in
theorem f83_198 : x_fetch q_k83 198 = x_lda 200 7 := rfl
theorem t83_198 (C : xF) (s n : Nat) (z : xS) : x_to q_k83 C s (n + 1) 198 z = x_nx q_k83 C s n ((x_lda 200 7) C z) := x_to_at f83_198 C s n z
set_option maxRecDepth 20000 in
theorem f83_200 : x_fetch q_k83 200 = x_gf 203 1 2 := rfl
theorem t83_200 (C : xF) (s n : Nat) (z : xS) : x_to q_k83 C s (n + 1) 200 z = x_nx q_k83 C s n ((x_gf 203 1 2) C z) := x_to_at f83_200 C s n z
set_option maxRecDepth 20000 in
theorem f83_203 : x_fetch q_k83 203 = x_lda 205 8 := rfl
theorem t83_203 (C : xF) (s n : Nat) (z : xS) : x_to q_k83 C s (n + 1) 203 z = x_nx q_k83 C s n ((x_lda 205 8) C z) := x_to_at f83_203 C s n z
set_option maxRecDepth 20000 in
theorem f83_205 : x_fetch q_k83 205 = x_gf 208 1 2 := rfl
theorem t83_205 (C : xF) (s n : Nat) (z : xS) : x_to q_k83 C s (n + 1) 205 z = x_nx q_k83 C s n ((x_gf 208 1 2) C z) := x_to_at f83_205 C s n z
set_option maxRecDepth 20000 in
theorem f83_208 : x_fetch q_k83 208 = x_st (x_bin 209 (fun a b => a ||| b)) := rfl
theorem t83_208 (C : xF) (s n : Nat) (z : xS) : x_to q_k83 C s (n + 1) 208 z = x_nx q_k83 C s n ((x_st (x_bin 209 (fun a b => a ||| b))) C z) := x_to_at f83_208 C s n z
set_option maxRecDepth 20000 in
theorem f83_209 : x_fetch q_k83 209 = x_cv 212 88 4 0 := rfl
theorem t83_209 (C : xF) (s n : Nat) (z : xS) : x_to q_k83 C s (n + 1) 209 z = x_nx q_k83 C s n ((x_cv 212 88 4 0) C z) := x_to_at f83_209 C s n z
set_option maxRecDepth 20000 in
theorem f83_212 : x_fetch q_k83 212 = x_st (x_push 213 (.int (0))) := rfl
theorem t83_212 (C : xF) (s n : Nat) (z : xS) : x_to q_k83 C s (n + 1) 212 z = x_nx q_k83 C s n ((x_st (x_push 213 (.int (0)))) C z) := x_to_at f83_212 C s n z
set_option maxRecDepth 20000 in
theorem f83_213 : x_fetch q_k83 213 = x_ri (.int) := rfl
theorem t83_213 (C : xF) (s n : Nat) (z : xS) : x_to q_k83 C s (n + 1) 213 z = x_nx q_k83 C s n ((x_ri (.int)) C z) := x_to_at f83_213 C s n z
theorem rzR_gC {Ds : List (List (Int × List Int) × Bool × Int × Int)} {T : List Int} {rule i k j l p : Int} {C' : List (Int × List Int)} (hG : ∀ i : Nat, i < Ds.length → gC (cl Ds i).1) (ht : thB Ds T rule i k j l p = true) (h4 : rule ≠ 4) (h : rzR Ds rule i k j l p 0 C') : gC C' := by
  obtain ⟨r0, r1, i0, i1, _, hk, hl1, hj, hp3⟩ := thB_ok ht
  obtain ⟨k0, k1⟩ := litB_ok (hk h4)
  have gD : gC (cl1 Ds i) := hG i.toNat (by omega)
  have memk := lC_mem k1
  have cases4 : rule = 0 ∨ rule = 1 ∨ rule = 2 ∨ rule = 3 := by omega
  rcases cases4 with rfl | rfl | rfl | rfl
  · obtain ⟨j0, j1, hl⟩ := hj (Or.inl rfl)
    obtain ⟨l0, l1⟩ := litB_ok hl
    have gE : gC (cl1 Ds j) := hG j.toNat (by omega)
    have meml := lC_mem (C := shC (cl1 Ds j)) (k := l.toNat) (by rw [shC_len]; exact l1)
    unfold rzR at h
    rw [if_pos rfl] at h
    exact RZ_gC h rfl (gD.ln _ memk).2.2 (gE.lns _ meml).2.2 (fun _ y hy => by
      rcases List.mem_append.mp hy with hy | hy
      · exact gD.ln y (oth_mem hy)
      · exact gE.lns y (oth_mem hy))
  · obtain ⟨l0, l1⟩ := litB_ok (hl1 rfl)
    unfold rzR at h
    rw [if_neg (by decide), if_pos rfl] at h
    exact RZ_gC h rfl (gD.ln _ memk).2.2 (gD.ln _ (lC_mem l1)).2.2 (fun _ y hy => gD.ln y (oth_mem hy))
  · unfold rzR at h
    rw [if_neg (by decide), if_neg (by decide), if_pos rfl] at h
    exact RZ_gC h rfl (fun s hs => (gD.ln _ memk).2.2 s (tm_mem hs)) (fun s hs => (gD.ln _ memk).2.2 s (tm_mem hs)) (fun _ y hy => gD.ln y (oth_mem hy))
  · obtain ⟨j0, j1, hl⟩ := hj (Or.inr rfl)
    obtain ⟨l0, l1⟩ := litB_ok hl
    have gE : gC (cl1 Ds j) := hG j.toNat (by omega)
    have lsh : l.toNat < (shC (cl1 Ds j)).length := by rw [shC_len]; exact l1
    have meml := lC_mem lsh
    have hpl := hp3 rfl
    unfold plB at hpl
    have hpl' : 0 ≤ p ∧ 1 + plQ p < (lC (cl1 Ds j) l.toNat).2.length ∧ 99 ≤ (lC (cl1 Ds j) l.toNat).2.getD (1 + plQ p).toNat 0 := by simpa using hpl
    have q0 : 0 ≤ plQ p := by
      unfold plQ
      split <;> omega
    have elen : (lC (shC (cl1 Ds j)) l.toNat).2.length = (lC (cl1 Ds j) l.toNat).2.length := by
      rw [lC_shC l1, litR_len]
    have hq1 : 1 + (plQ p).toNat < (lC (shC (cl1 Ds j)) l.toNat).2.length := by omega
    unfold rzR at h
    rw [if_neg (by decide), if_neg (by decide), if_neg (by decide)] at h
    exact RZ_gC h rfl (fun s hs => by
      unfold f3 at hs
      split at hs
      · exact (gD.ln _ memk).2.2 s (tm_mem hs)
      · exact (gD.ln _ memk).2.2 s (tm_mem hs)) (fun s hs => (gE.lns _ meml).2.2 s (tm_mem hs)) (fun hf y hy => by
      rcases List.mem_append.mp hy with hy | hy
      · exact gD.ln y (oth_mem hy)
      · rcases rew_mem hy with hy | ⟨q, hq, e⟩
        · exact gE.lns y hy
        · obtain ⟨t1, t2⟩ := two_99 (gD.ln _ memk).2.1 hf.1
          have TG : Ts 1 (g3 (lC (cl1 Ds i) k.toNat).2 p) := by
            unfold g3
            split
            · exact Ts_at (gD.ln _ memk).2.1 t1
            · exact Ts_at (gD.ln _ memk).2.1 t2
          rw [e]
          refine ⟨(gE.lns q hq).1, ?_, fun s hs => ?_⟩
          · exact Ts_repl (gE.lns _ meml).2.1 hq1 TG
          · unfold rw3 at hs
            rcases List.mem_append.mp hs with hs | hs
            · exact (gE.lns _ meml).2.2 s (List.mem_of_mem_take hs)
            · rcases List.mem_append.mp hs with hs | hs
              · unfold g3 at hs
                split at hs
                · exact (gD.ln _ memk).2.2 s (tm_mem hs)
                · exact (gD.ln _ memk).2.2 s (tm_mem hs)
              · exact (gE.lns _ meml).2.2 s (List.mem_of_mem_drop hs))
theorem thB_isT {Ds : List (List (Int × List Int) × Bool × Int × Int)} {T : List Int} {rule i k j l p : Int} (hi : inC Ds i = true) (hj : rule = 0 ∨ rule = 3 → inC Ds j = true) : thB Ds T rule i k j l p = isT rule (cl Ds i.toNat).1 k (if rule = 0 ∨ rule = 3 then (cl Ds j.toNat).1 else (cl Ds i.toNat).1) l p (decide (T ≠ [])) := by
  unfold inC at hi
  have hi' : 0 ≤ i ∧ i < Ds.length := by simpa using hi
  have hj' : rule = 0 ∨ rule = 3 → 0 ≤ j ∧ j < Ds.length := fun z => by
    have := hj z
    unfold inC at this
    simpa using this
  unfold thB isT
  have i2 : ¬ i < 0 := by omega
  have i3 : ¬ (Ds.length : Int) ≤ i := by omega
  by_cases r0 : rule = 0
  · have := hj' (Or.inl r0)
    have n1 : ¬ j < 0 := by omega
    have n2 : ¬ (Ds.length : Int) ≤ j := by omega
    subst r0
    cases hA : litB (cl Ds i.toNat).1 k <;> cases hB : litB (cl Ds j.toNat).1 l <;> simp [hA, hB, n1, n2, i2, i3]
  · by_cases r3 : rule = 3
    · have := hj' (Or.inr r3)
      have n1 : ¬ j < 0 := by omega
      have n2 : ¬ (Ds.length : Int) ≤ j := by omega
      subst r3
      cases hA : litB (cl Ds i.toNat).1 k <;> cases hB : litB (cl Ds j.toNat).1 l <;> simp [hA, hB, n1, n2, i2, i3]
    · by_cases r1 : rule = 1
      · subst r1
        cases hA : litB (cl Ds i.toNat).1 k <;> simp [hA, i2, i3]
      · by_cases r2 : rule = 2
        · subst r2
          cases hA : litB (cl Ds i.toNat).1 k <;> simp [hA, i2, i3]
        · by_cases r4 : rule = 4
          · subst r4
            simp [i2, i3]
          · rw [if_pos (show rule < 0 ∨ 4 < rule ∨ i < 0 ∨ (Ds.length : Int) ≤ i by omega)]
            simp [r0, r1, r2, r3, r4]
theorem thB_no {Ds : List (List (Int × List Int) × Bool × Int × Int)} {T : List Int} {rule i k j l p : Int} (h : inC Ds i = false ∨ ((rule = 0 ∨ rule = 3) ∧ inC Ds j = false)) : thB Ds T rule i k j l p = false := by
  cases ht : thB Ds T rule i k j l p with
  | false => rfl
  | true =>
    exfalso
    obtain ⟨r0, r1, i0, i1, _, hk, hl1, hj, hp3⟩ := thB_ok ht
    rcases h with h | ⟨h1, h2⟩
    · unfold inC at h
      simp at h
      omega
    · obtain ⟨j0, j1, _⟩ := hj h1
      unfold inC at h2
      simp at h2
      omega
section ATT
variable {w : Nat → xC} {N : Nat} {Ds : List (List (Int × List Int) × Bool × Int × Int)} {T U : List Int} {clm cf lf : Int}
theorem CS.fr {w' : Nat → xC} {T0 : List Int} (h : CS w N Ds T0 U clm cf lf) (f : ∀ j, j ≤ 10 ∨ 27 ≤ j → w' j = w j) (hD : DI w') (hM : MI w') : CS w' N Ds T0 U clm cf lf := by
  obtain ⟨z0, z30, ⟨p, Tx, z1, z2, z3⟩, ⟨Rf, r1, r2, r3⟩, z4, z5, z6, ⟨V, v1, v2⟩, z9, z10, z11, z12, z13⟩ := h
  exact ⟨(f 0 (by omega)).trans z0, z30, ⟨p, Tx, (f 1 (by omega)).trans z1, (f 2 (by omega)).trans z2, z3⟩, ⟨Rf, (f 3 (by omega)).trans r1, r2, fun i hi => by
    obtain ⟨n, n1, n2⟩ := r3 i hi
    exact ⟨n, n1, n2.mv (Nat.le_refl _) (fun j j0 _ => f j (by omega))⟩⟩, (f 4 (by omega)).trans z4, (f 5 (by omega)).trans z5, z6, ⟨V, (f 6 (by omega)).trans v1, v2⟩, z9.mv (fun j j0 j1 => f j (by omega)), hD, hM, z12, fun j j0 j1 => by rw [f j (by omega)]; exact z13 j j0 j1⟩
/-- what a try leaves -/
def AVs (Ds : List (List (Int × List Int) × Bool × Int × Int)) (T U : List Int) (rule i k j l p why : Int) (Ds' : List (List (Int × List Int) × Bool × Int × Int)) (U' : List Int) : Prop :=
  if Ds.length = 30 then why = -3 ∧ Ds' = Ds ∧ U' = U
  else if thB Ds T rule i k j l p = false then why = -4 ∧ Ds' = Ds ∧ U' = U
  else if T = [] then ∃ rr C', rzR Ds rule i k j l p rr C' ∧ if rr = 0 then why = 0 ∧ Ds' = Ds ++ [(C', false, dpS Ds rule i j + 1, ndS Ds rule i j)] ∧ U' = U else why = rr ∧ Ds' = Ds ∧ U' = U
  else match rdQ T with
    | none => why = -1 ∧ Ds' = Ds ∧ U' = U
    | some l0 => if (ntC l0 (U, false)).2 = true then why = -2 ∧ Ds' = Ds ∧ U' = U
      else if rule = 4 then (if dfs (mtL (cl1 Ds i) (rnD (uqs [] l0))) (rnD (uqs [] l0)).length (cl1 Ds i).length 0 (fun _ => []) = true then why = 0 ∧ Ds' = Ds ++ [(rnD (uqs [] l0), false, dpS Ds rule i j + 1, ndS Ds rule i j)] ∧ U' = (ntC l0 (U, false)).1 else why = -8 ∧ Ds' = Ds ∧ U' = U)
      else ∃ rr C', rzR Ds rule i k j l p rr C' ∧ if rr = 0 then (if C' = rnD (uqs [] l0) then why = 0 ∧ Ds' = Ds ++ [(C', false, dpS Ds rule i j + 1, ndS Ds rule i j)] ∧ U' = U else why = -8 ∧ Ds' = Ds ∧ U' = U) else why = rr ∧ Ds' = Ds ∧ U' = U
def lv83 (lv : xL) (rule i k j l p : Int) : Prop := c1 lv ∧ x_lk lv 0 = some (.ref 3) ∧ x_lk lv 1 = some (.int (iZ rule)) ∧ x_lk lv 2 = some (.int (iZ i)) ∧ x_lk lv 3 = some (.int (iZ k)) ∧ x_lk lv 4 = some (.int (iZ j)) ∧ x_lk lv 5 = some (.int (iZ l)) ∧ x_lk lv 6 = some (.int (iZ p))
theorem lv83.st {lv : xL} {rule i k j l p : Int} (h : lv83 lv rule i k j l p) {q : Nat} {v : Value} (hq : 6 < q) (hv : v.category = 1) : lv83 ((q, v) :: lv.filter (x_keep q)) rule i k j l p := by
  obtain ⟨h1, h2, h3, h4, h5, h6, h7, h8⟩ := h
  refine ⟨c1_st hv h1, ?_, ?_, ?_, ?_, ?_, ?_, ?_⟩ <;> rw [lk_s h1, if_neg (by omega)] <;> assumption
def two_ (rule : Int) : Bool := decide (rule = 0 ∨ rule = 3)
set_option maxHeartbeats 1000000 in
/-- from the beginning to where the clauses are there, or to the answer that they aren't -/
theorem P83 (d : Nat) (h : CS w N Ds [] U clm cf lf) (hcm : clm = bZ (decide (T ≠ []))) (rule i k j l p : Int) (rr : -2147483648 ≤ rule ∧ rule < 2147483648) (ir : -2147483648 ≤ i ∧ i < 2147483648) (kr : -2147483648 ≤ k ∧ k < 2147483648) (jr : -2147483648 ≤ j ∧ j < 2147483648) (lr : -2147483648 ≤ l ∧ l < 2147483648) (pr : -2147483648 ≤ p ∧ p < 2147483648) (lv : xL) (hl : lv83 lv rule i k j l p) (h30 : Ds.length < 30) :
    (thB Ds T rule i k j l p = false → Gx q_k83 (d + 54) 0 (lv, [], hp w N) (some (.int (iZ (-4))), hp w N)) ∧
    (thB Ds T rule i k j l p = true → ∃ (n n2 : Nat) (lv' : xL), CLa w N n (cl Ds i.toNat) ∧ (two_ rule = true → CLa w N n2 (cl Ds j.toNat)) ∧ (two_ rule = false → n2 = n) ∧ lv83 lv' rule i k j l p ∧ x_lk lv' 7 = some (.ref (n + 3)) ∧ x_lk lv' 8 = some (.ref (n2 + 3)) ∧ ∀ res, Gx q_k83 (d + 54) 75 (lv', [], hp w N) res → Gx q_k83 (d + 54) 0 (lv, [], hp w N) res) := by
  have c0 := h.1
  have hN := h.2.2.2.2.2.2.2.2.2.2.2.1
  obtain ⟨i1, i2⟩ := m81 (d + 53) h i ir
  obtain ⟨j1, j2⟩ := m81 (d + 53) h j jr
  have X85 := m85 (d + 53) w N rule rr.1 rr.2
  have e2 : decide (rule = 0 ∨ rule = 3) = two_ rule := rfl
  rw [e2] at X85
  obtain ⟨cnt, hcnt⟩ : ∃ cnt : Int, cnt = (Ds.length : Int) := ⟨_, rfl⟩
  rw [← hcnt] at c0
  have b1 : cnt < 30 := by omega
  have b0 : 0 ≤ cnt := by omega
  have hl' := hl
  obtain ⟨hc, l0, l1, l2, l3, l4, l5, l6⟩ := hl'
  cases hi : inC Ds i with
  | false =>
    have ht := thB_no (T := T) (rule := rule) (k := k) (j := j) (l := l) (p := p) (Or.inl hi)
    refine ⟨fun _ => ?_, fun z => by rw [ht] at z; cases z⟩
    have Xi := i1 hi
    cases h2 : two_ rule with
    | false =>
      rw [h2, bZ_f] at X85
      refine Gx.fin 60 (Xi.and X85) (fun X mm => ?_)
      obtain ⟨mm1, mm2⟩ := mm
      simp (disch := first | (refine c1_id ?_; assumption) | (refine c1_st rfl ?_; repeat (first | assumption | refine c1_st rfl ?_)) | omega) [nx_l, nx_r, nx_n, x_st, x_push, x_bin, x_div, x_un, x_dup, x_pop, x_dup2, x_goto, x_ifeq, x_ifne, x_iflt, x_ifge, x_ifgt, x_ifle, x_iceq, x_icne, x_iclt, x_icge, x_icgt, x_icle, x_ifnull, x_ifnonnull, x_ldi, x_lda, x_sti, x_sta, x_iinc, x_gf, x_pf, x_ald, x_ast, x_aln, x_len, x_cl_, x_cv, x_cs, x_rc, x_r0, x_isT, x_oi, x_rv, x_ri, x_ra, Value.category, t83_0, t83_1, t83_4, t83_6, t83_9, t83_11, t83_12, t83_13, t83_14, t83_17, t83_19, t83_20, t83_23, t83_26, t83_27, t83_29, t83_32, t83_35, t83_37, t83_39, t83_41, t83_44, t83_46, t83_49, t83_50, t83_51, t83_53, t83_56, t83_57, t83_59, t83_62, t83_64, t83_66, t83_69, t83_72, t83_74, t83_75, t83_76, t83_79, t83_82, t83_83, t83_86, t83_89, t83_90, t83_93, t83_94, t83_95, t83_96, t83_99, t83_100, t83_103, t83_104, t83_107, t83_108, t83_110, t83_113, t83_114, t83_116, t83_119, t83_121, t83_123, t83_126, t83_128, t83_130, t83_133, t83_135, t83_136, t83_137, t83_140, t83_143, t83_144, t83_145, t83_147, t83_150, t83_153, t83_156, t83_158, t83_159, t83_160, t83_161, t83_164, t83_165, t83_168, t83_171, t83_172, t83_175, t83_178, t83_180, t83_181, t83_183, t83_184, t83_186, t83_189, t83_191, t83_194, t83_197, t83_198, t83_200, t83_203, t83_205, t83_208, t83_209, t83_212, t83_213, lk_s, hp_get, hp_set, uH_at, uH_ne, uH_upd, uH_swap, iZ_add, iZ_sub, iZ_mul, iZ_neg, iZ_lt, iZ_le, iZ_eq, iZ_div, iZ_of, ix_Z, gZ_map, gZ_mapI, gZ_map', le_0, le_s, sZ_map, sZ_len, bZ_0, bZ_inj, bZ_t, bZ_f, nr_i, nr_0, nr_1, nr_b, ft_i, ft_b, ft_0, ft_1, zl_0, zl_1, zl_3, zl_4, zl_8, zl_30, l0, l1, l2, l4, c0, b1, mm1, mm2, dk, -List.filter_filter, -List.getElem?_map, -List.getD_eq_getElem?_getD]
    | true =>
      rw [h2, bZ_t] at X85
      cases hj : inC Ds j with
      | false =>
        refine Gx.fin 60 ((Xi.and X85).and (j1 hj)) (fun X mm => ?_)
        obtain ⟨⟨mm1, mm2⟩, mm3⟩ := mm
        simp (disch := first | (refine c1_id ?_; assumption) | (refine c1_st rfl ?_; repeat (first | assumption | refine c1_st rfl ?_)) | omega) [nx_l, nx_r, nx_n, x_st, x_push, x_bin, x_div, x_un, x_dup, x_pop, x_dup2, x_goto, x_ifeq, x_ifne, x_iflt, x_ifge, x_ifgt, x_ifle, x_iceq, x_icne, x_iclt, x_icge, x_icgt, x_icle, x_ifnull, x_ifnonnull, x_ldi, x_lda, x_sti, x_sta, x_iinc, x_gf, x_pf, x_ald, x_ast, x_aln, x_len, x_cl_, x_cv, x_cs, x_rc, x_r0, x_isT, x_oi, x_rv, x_ri, x_ra, Value.category, t83_0, t83_1, t83_4, t83_6, t83_9, t83_11, t83_12, t83_13, t83_14, t83_17, t83_19, t83_20, t83_23, t83_26, t83_27, t83_29, t83_32, t83_35, t83_37, t83_39, t83_41, t83_44, t83_46, t83_49, t83_50, t83_51, t83_53, t83_56, t83_57, t83_59, t83_62, t83_64, t83_66, t83_69, t83_72, t83_74, t83_75, t83_76, t83_79, t83_82, t83_83, t83_86, t83_89, t83_90, t83_93, t83_94, t83_95, t83_96, t83_99, t83_100, t83_103, t83_104, t83_107, t83_108, t83_110, t83_113, t83_114, t83_116, t83_119, t83_121, t83_123, t83_126, t83_128, t83_130, t83_133, t83_135, t83_136, t83_137, t83_140, t83_143, t83_144, t83_145, t83_147, t83_150, t83_153, t83_156, t83_158, t83_159, t83_160, t83_161, t83_164, t83_165, t83_168, t83_171, t83_172, t83_175, t83_178, t83_180, t83_181, t83_183, t83_184, t83_186, t83_189, t83_191, t83_194, t83_197, t83_198, t83_200, t83_203, t83_205, t83_208, t83_209, t83_212, t83_213, lk_s, hp_get, hp_set, uH_at, uH_ne, uH_upd, uH_swap, iZ_add, iZ_sub, iZ_mul, iZ_neg, iZ_lt, iZ_le, iZ_eq, iZ_div, iZ_of, ix_Z, gZ_map, gZ_mapI, gZ_map', le_0, le_s, sZ_map, sZ_len, bZ_0, bZ_inj, bZ_t, bZ_f, nr_i, nr_0, nr_1, nr_b, ft_i, ft_b, ft_0, ft_1, zl_0, zl_1, zl_3, zl_4, zl_8, zl_30, l0, l1, l2, l4, c0, b1, mm1, mm2, mm3, dk, -List.filter_filter, -List.getElem?_map, -List.getD_eq_getElem?_getD]
      | true =>
        obtain ⟨n2, _, Xj⟩ := j2 hj
        refine Gx.fin 60 ((Xi.and X85).and Xj) (fun X mm => ?_)
        obtain ⟨⟨mm1, mm2⟩, mm3⟩ := mm
        simp (disch := first | (refine c1_id ?_; assumption) | (refine c1_st rfl ?_; repeat (first | assumption | refine c1_st rfl ?_)) | omega) [nx_l, nx_r, nx_n, x_st, x_push, x_bin, x_div, x_un, x_dup, x_pop, x_dup2, x_goto, x_ifeq, x_ifne, x_iflt, x_ifge, x_ifgt, x_ifle, x_iceq, x_icne, x_iclt, x_icge, x_icgt, x_icle, x_ifnull, x_ifnonnull, x_ldi, x_lda, x_sti, x_sta, x_iinc, x_gf, x_pf, x_ald, x_ast, x_aln, x_len, x_cl_, x_cv, x_cs, x_rc, x_r0, x_isT, x_oi, x_rv, x_ri, x_ra, Value.category, t83_0, t83_1, t83_4, t83_6, t83_9, t83_11, t83_12, t83_13, t83_14, t83_17, t83_19, t83_20, t83_23, t83_26, t83_27, t83_29, t83_32, t83_35, t83_37, t83_39, t83_41, t83_44, t83_46, t83_49, t83_50, t83_51, t83_53, t83_56, t83_57, t83_59, t83_62, t83_64, t83_66, t83_69, t83_72, t83_74, t83_75, t83_76, t83_79, t83_82, t83_83, t83_86, t83_89, t83_90, t83_93, t83_94, t83_95, t83_96, t83_99, t83_100, t83_103, t83_104, t83_107, t83_108, t83_110, t83_113, t83_114, t83_116, t83_119, t83_121, t83_123, t83_126, t83_128, t83_130, t83_133, t83_135, t83_136, t83_137, t83_140, t83_143, t83_144, t83_145, t83_147, t83_150, t83_153, t83_156, t83_158, t83_159, t83_160, t83_161, t83_164, t83_165, t83_168, t83_171, t83_172, t83_175, t83_178, t83_180, t83_181, t83_183, t83_184, t83_186, t83_189, t83_191, t83_194, t83_197, t83_198, t83_200, t83_203, t83_205, t83_208, t83_209, t83_212, t83_213, lk_s, hp_get, hp_set, uH_at, uH_ne, uH_upd, uH_swap, iZ_add, iZ_sub, iZ_mul, iZ_neg, iZ_lt, iZ_le, iZ_eq, iZ_div, iZ_of, ix_Z, gZ_map, gZ_mapI, gZ_map', le_0, le_s, sZ_map, sZ_len, bZ_0, bZ_inj, bZ_t, bZ_f, nr_i, nr_0, nr_1, nr_b, ft_i, ft_b, ft_0, ft_1, zl_0, zl_1, zl_3, zl_4, zl_8, zl_30, l0, l1, l2, l4, c0, b1, mm1, mm2, mm3, dk, -List.filter_filter, -List.getElem?_map, -List.getD_eq_getElem?_getD]
  | true =>
    obtain ⟨n, hn, Xi⟩ := i2 hi
    have hn' := hn
    obtain ⟨t, S, E, B, n53_, nN, nw, nF, nT⟩ := hn'
    have L7 := hl.st (q := 7) (v := .ref (n + 3)) (by omega) rfl
    -- the second
    have sec : (two_ rule = true ∧ inC Ds j = false) ∨ ∃ n2, (two_ rule = true → CLa w N n2 (cl Ds j.toNat)) ∧ (two_ rule = false → n2 = n) ∧ (two_ rule = true → inC Ds j = true) ∧ ∀ res, Gx q_k83 (d + 54) 39 ((8, .ref (n2 + 3)) :: List.filter (x_keep 8) ((7, .ref (n + 3)) :: lv.filter (x_keep 7)), [], hp w N) res → Gx q_k83 (d + 54) 0 (lv, [], hp w N) res := by
      cases h2 : two_ rule with
      | false =>
        rw [h2, bZ_f] at X85
        refine Or.inr ⟨n, fun z => (by cases z), fun _ => rfl, fun z => (by cases z), fun res hres => Gx.run 60 (Xi.and X85) (fun X mm => ?_) hres⟩
        obtain ⟨mm1, mm2⟩ := mm
        simp (disch := first | (refine c1_id ?_; assumption) | (refine c1_st rfl ?_; repeat (first | assumption | refine c1_st rfl ?_)) | omega) [nx_l, nx_r, nx_n, x_st, x_push, x_bin, x_div, x_un, x_dup, x_pop, x_dup2, x_goto, x_ifeq, x_ifne, x_iflt, x_ifge, x_ifgt, x_ifle, x_iceq, x_icne, x_iclt, x_icge, x_icgt, x_icle, x_ifnull, x_ifnonnull, x_ldi, x_lda, x_sti, x_sta, x_iinc, x_gf, x_pf, x_ald, x_ast, x_aln, x_len, x_cl_, x_cv, x_cs, x_rc, x_r0, x_isT, x_oi, x_rv, x_ri, x_ra, Value.category, t83_0, t83_1, t83_4, t83_6, t83_9, t83_11, t83_12, t83_13, t83_14, t83_17, t83_19, t83_20, t83_23, t83_26, t83_27, t83_29, t83_32, t83_35, t83_37, t83_39, t83_41, t83_44, t83_46, t83_49, t83_50, t83_51, t83_53, t83_56, t83_57, t83_59, t83_62, t83_64, t83_66, t83_69, t83_72, t83_74, t83_75, t83_76, t83_79, t83_82, t83_83, t83_86, t83_89, t83_90, t83_93, t83_94, t83_95, t83_96, t83_99, t83_100, t83_103, t83_104, t83_107, t83_108, t83_110, t83_113, t83_114, t83_116, t83_119, t83_121, t83_123, t83_126, t83_128, t83_130, t83_133, t83_135, t83_136, t83_137, t83_140, t83_143, t83_144, t83_145, t83_147, t83_150, t83_153, t83_156, t83_158, t83_159, t83_160, t83_161, t83_164, t83_165, t83_168, t83_171, t83_172, t83_175, t83_178, t83_180, t83_181, t83_183, t83_184, t83_186, t83_189, t83_191, t83_194, t83_197, t83_198, t83_200, t83_203, t83_205, t83_208, t83_209, t83_212, t83_213, lk_s, hp_get, hp_set, uH_at, uH_ne, uH_upd, uH_swap, iZ_add, iZ_sub, iZ_mul, iZ_neg, iZ_lt, iZ_le, iZ_eq, iZ_div, iZ_of, ix_Z, gZ_map, gZ_mapI, gZ_map', le_0, le_s, sZ_map, sZ_len, bZ_0, bZ_inj, bZ_t, bZ_f, nr_i, nr_0, nr_1, nr_b, ft_i, ft_b, ft_0, ft_1, zl_0, zl_1, zl_3, zl_4, zl_8, zl_30, l0, l1, l2, l4, c0, b1, mm1, mm2, dk, -List.filter_filter, -List.getElem?_map, -List.getD_eq_getElem?_getD]
      | true =>
        rw [h2, bZ_t] at X85
        cases hj : inC Ds j with
        | false => exact Or.inl ⟨rfl, rfl⟩
        | true =>
          obtain ⟨n2, hn2, Xj⟩ := j2 hj
          refine Or.inr ⟨n2, fun _ => hn2, fun z => (by cases z), fun _ => rfl, fun res hres => Gx.run 60 ((Xi.and X85).and Xj) (fun X mm => ?_) hres⟩
          obtain ⟨⟨mm1, mm2⟩, mm3⟩ := mm
          simp (disch := first | (refine c1_id ?_; assumption) | (refine c1_st rfl ?_; repeat (first | assumption | refine c1_st rfl ?_)) | omega) [nx_l, nx_r, nx_n, x_st, x_push, x_bin, x_div, x_un, x_dup, x_pop, x_dup2, x_goto, x_ifeq, x_ifne, x_iflt, x_ifge, x_ifgt, x_ifle, x_iceq, x_icne, x_iclt, x_icge, x_icgt, x_icle, x_ifnull, x_ifnonnull, x_ldi, x_lda, x_sti, x_sta, x_iinc, x_gf, x_pf, x_ald, x_ast, x_aln, x_len, x_cl_, x_cv, x_cs, x_rc, x_r0, x_isT, x_oi, x_rv, x_ri, x_ra, Value.category, t83_0, t83_1, t83_4, t83_6, t83_9, t83_11, t83_12, t83_13, t83_14, t83_17, t83_19, t83_20, t83_23, t83_26, t83_27, t83_29, t83_32, t83_35, t83_37, t83_39, t83_41, t83_44, t83_46, t83_49, t83_50, t83_51, t83_53, t83_56, t83_57, t83_59, t83_62, t83_64, t83_66, t83_69, t83_72, t83_74, t83_75, t83_76, t83_79, t83_82, t83_83, t83_86, t83_89, t83_90, t83_93, t83_94, t83_95, t83_96, t83_99, t83_100, t83_103, t83_104, t83_107, t83_108, t83_110, t83_113, t83_114, t83_116, t83_119, t83_121, t83_123, t83_126, t83_128, t83_130, t83_133, t83_135, t83_136, t83_137, t83_140, t83_143, t83_144, t83_145, t83_147, t83_150, t83_153, t83_156, t83_158, t83_159, t83_160, t83_161, t83_164, t83_165, t83_168, t83_171, t83_172, t83_175, t83_178, t83_180, t83_181, t83_183, t83_184, t83_186, t83_189, t83_191, t83_194, t83_197, t83_198, t83_200, t83_203, t83_205, t83_208, t83_209, t83_212, t83_213, lk_s, hp_get, hp_set, uH_at, uH_ne, uH_upd, uH_swap, iZ_add, iZ_sub, iZ_mul, iZ_neg, iZ_lt, iZ_le, iZ_eq, iZ_div, iZ_of, ix_Z, gZ_map, gZ_mapI, gZ_map', le_0, le_s, sZ_map, sZ_len, bZ_0, bZ_inj, bZ_t, bZ_f, nr_i, nr_0, nr_1, nr_b, ft_i, ft_b, ft_0, ft_1, zl_0, zl_1, zl_3, zl_4, zl_8, zl_30, l0, l1, l2, l4, c0, b1, mm1, mm2, mm3, dk, -List.filter_filter, -List.getElem?_map, -List.getD_eq_getElem?_getD]
    rcases sec with ⟨h2, hj⟩ | ⟨n2, s1, s2, s3, g39⟩
    · have ht := thB_no (T := T) (rule := rule) (i := i) (k := k) (j := j) (l := l) (p := p) (Or.inr ⟨by unfold two_ at h2; simpa using h2, hj⟩)
      refine ⟨fun _ => ?_, fun z => by rw [ht] at z; cases z⟩
      rw [h2, bZ_t] at X85
      refine Gx.fin 60 ((Xi.and X85).and (j1 hj)) (fun X mm => ?_)
      obtain ⟨⟨mm1, mm2⟩, mm3⟩ := mm
      simp (disch := first | (refine c1_id ?_; assumption) | (refine c1_st rfl ?_; repeat (first | assumption | refine c1_st rfl ?_)) | omega) [nx_l, nx_r, nx_n, x_st, x_push, x_bin, x_div, x_un, x_dup, x_pop, x_dup2, x_goto, x_ifeq, x_ifne, x_iflt, x_ifge, x_ifgt, x_ifle, x_iceq, x_icne, x_iclt, x_icge, x_icgt, x_icle, x_ifnull, x_ifnonnull, x_ldi, x_lda, x_sti, x_sta, x_iinc, x_gf, x_pf, x_ald, x_ast, x_aln, x_len, x_cl_, x_cv, x_cs, x_rc, x_r0, x_isT, x_oi, x_rv, x_ri, x_ra, Value.category, t83_0, t83_1, t83_4, t83_6, t83_9, t83_11, t83_12, t83_13, t83_14, t83_17, t83_19, t83_20, t83_23, t83_26, t83_27, t83_29, t83_32, t83_35, t83_37, t83_39, t83_41, t83_44, t83_46, t83_49, t83_50, t83_51, t83_53, t83_56, t83_57, t83_59, t83_62, t83_64, t83_66, t83_69, t83_72, t83_74, t83_75, t83_76, t83_79, t83_82, t83_83, t83_86, t83_89, t83_90, t83_93, t83_94, t83_95, t83_96, t83_99, t83_100, t83_103, t83_104, t83_107, t83_108, t83_110, t83_113, t83_114, t83_116, t83_119, t83_121, t83_123, t83_126, t83_128, t83_130, t83_133, t83_135, t83_136, t83_137, t83_140, t83_143, t83_144, t83_145, t83_147, t83_150, t83_153, t83_156, t83_158, t83_159, t83_160, t83_161, t83_164, t83_165, t83_168, t83_171, t83_172, t83_175, t83_178, t83_180, t83_181, t83_183, t83_184, t83_186, t83_189, t83_191, t83_194, t83_197, t83_198, t83_200, t83_203, t83_205, t83_208, t83_209, t83_212, t83_213, lk_s, hp_get, hp_set, uH_at, uH_ne, uH_upd, uH_swap, iZ_add, iZ_sub, iZ_mul, iZ_neg, iZ_lt, iZ_le, iZ_eq, iZ_div, iZ_of, ix_Z, gZ_map, gZ_mapI, gZ_map', le_0, le_s, sZ_map, sZ_len, bZ_0, bZ_inj, bZ_t, bZ_f, nr_i, nr_0, nr_1, nr_b, ft_i, ft_b, ft_0, ft_1, zl_0, zl_1, zl_3, zl_4, zl_8, zl_30, l0, l1, l2, l4, c0, b1, mm1, mm2, mm3, dk, -List.filter_filter, -List.getElem?_map, -List.getD_eq_getElem?_getD]
    · have L8 := L7.st (q := 8) (v := .ref (n2 + 3)) (by omega) rfl
      have m7' : x_lk ((8, .ref (n2 + 3)) :: List.filter (x_keep 8) ((7, .ref (n + 3)) :: lv.filter (x_keep 7))) 7 = some (.ref (n + 3)) := by rw [lk_s L7.1, lk_s hc]; rfl
      have m8' : x_lk ((8, .ref (n2 + 3)) :: List.filter (x_keep 8) ((7, .ref (n + 3)) :: lv.filter (x_keep 7))) 8 = some (.ref (n2 + 3)) := by rw [lk_s L7.1]; rfl
      generalize ((8, .ref (n2 + 3)) :: List.filter (x_keep 8) ((7, .ref (n + 3)) :: lv.filter (x_keep 7)) : xL) = lv8 at L8 m7' m8' g39
      have hB := thB_isT (T := T) (k := k) (l := l) (p := p) hi (fun z => s3 (by unfold two_; exact decide_eq_true z))
      -- the second form
      have sF : ∃ (q2 : List (Int × List Int) × Bool × Int × Int) (t2 : Nat) (S2 E2 B2 : List Int), q2.1 = (if rule = 0 ∨ rule = 3 then (cl Ds j.toNat).1 else (cl Ds i.toNat).1) ∧ 53 ≤ n2 ∧ n2 + 4 < N ∧ w n2 = .inr (1, [.ref (n2 + 1 + 3), .int (iZ q2.2.2.1), .int (iZ q2.2.2.2), .ref t2]) ∧ FM w N (n2 + 1) S2 E2 B2 q2.1 0 := by
        cases h2 : two_ rule with
        | false =>
          have e := s2 h2
          subst e
          have hr : ¬ (rule = 0 ∨ rule = 3) := by unfold two_ at h2; simpa using h2
          exact ⟨cl Ds i.toNat, t, S, E, B, by rw [if_neg hr], n53_, nN, nw, nF⟩
        | true =>
          have hr : rule = 0 ∨ rule = 3 := by unfold two_ at h2; simpa using h2
          obtain ⟨t2, S2, E2, B2, y1, y2, y3, y4, _⟩ := s1 h2
          exact ⟨cl Ds j.toNat, t2, S2, E2, B2, by rw [if_pos hr], y1, y2, y3, y4⟩
      obtain ⟨q2, t2, S2, E2, B2, eq2, y1, y2, y3, y4⟩ := sF
      have c0' := c0
      rw [hcm] at c0'
      have X86 := m86 (N := N) (d + 51) hN c0' nF y4 rule k l p rr kr lr pr
      rw [eq2, ← hB] at X86
      obtain ⟨_, k0, k1, k2, k3, k4, k5, k6⟩ := L8
      have nw' := nw
      have y3' := y3
      have run75 : ∀ (bb : Bool), thB Ds T rule i k j l p = bb → (bb = false → Gx q_k83 (d + 54) 39 (lv8, [], hp w N) (some (.int (iZ (-4))), hp w N)) ∧ (bb = true → ∀ res, Gx q_k83 (d + 54) 75 (lv8, [], hp w N) res → Gx q_k83 (d + 54) 39 (lv8, [], hp w N) res) := fun bb hbb => by
        rw [hbb] at X86
        refine ⟨fun z => ?_, fun z res hres => ?_⟩
        · rw [z, bZ_f] at X86
          refine Gx.fin 60 X86 (fun X mm => ?_)
          simp (disch := first | (refine c1_id ?_; assumption) | (refine c1_st rfl ?_; repeat (first | assumption | refine c1_st rfl ?_)) | omega) [nx_l, nx_r, nx_n, x_st, x_push, x_bin, x_div, x_un, x_dup, x_pop, x_dup2, x_goto, x_ifeq, x_ifne, x_iflt, x_ifge, x_ifgt, x_ifle, x_iceq, x_icne, x_iclt, x_icge, x_icgt, x_icle, x_ifnull, x_ifnonnull, x_ldi, x_lda, x_sti, x_sta, x_iinc, x_gf, x_pf, x_ald, x_ast, x_aln, x_len, x_cl_, x_cv, x_cs, x_rc, x_r0, x_isT, x_oi, x_rv, x_ri, x_ra, Value.category, t83_0, t83_1, t83_4, t83_6, t83_9, t83_11, t83_12, t83_13, t83_14, t83_17, t83_19, t83_20, t83_23, t83_26, t83_27, t83_29, t83_32, t83_35, t83_37, t83_39, t83_41, t83_44, t83_46, t83_49, t83_50, t83_51, t83_53, t83_56, t83_57, t83_59, t83_62, t83_64, t83_66, t83_69, t83_72, t83_74, t83_75, t83_76, t83_79, t83_82, t83_83, t83_86, t83_89, t83_90, t83_93, t83_94, t83_95, t83_96, t83_99, t83_100, t83_103, t83_104, t83_107, t83_108, t83_110, t83_113, t83_114, t83_116, t83_119, t83_121, t83_123, t83_126, t83_128, t83_130, t83_133, t83_135, t83_136, t83_137, t83_140, t83_143, t83_144, t83_145, t83_147, t83_150, t83_153, t83_156, t83_158, t83_159, t83_160, t83_161, t83_164, t83_165, t83_168, t83_171, t83_172, t83_175, t83_178, t83_180, t83_181, t83_183, t83_184, t83_186, t83_189, t83_191, t83_194, t83_197, t83_198, t83_200, t83_203, t83_205, t83_208, t83_209, t83_212, t83_213, lk_s, hp_get, hp_set, uH_at, uH_ne, uH_upd, uH_swap, iZ_add, iZ_sub, iZ_mul, iZ_neg, iZ_lt, iZ_le, iZ_eq, iZ_div, iZ_of, ix_Z, gZ_map, gZ_mapI, gZ_map', le_0, le_s, sZ_map, sZ_len, bZ_0, bZ_inj, bZ_t, bZ_f, nr_i, nr_0, nr_1, nr_b, ft_i, ft_b, ft_0, ft_1, zl_0, zl_1, zl_3, zl_4, zl_8, zl_30, k0, k1, k3, k5, k6, m7', m8', c0, nw', y3', mm, dk, -List.filter_filter, -List.getElem?_map, -List.getD_eq_getElem?_getD]
        · rw [z, bZ_t] at X86
          refine Gx.run 60 X86 (fun X mm => ?_) hres
          simp (disch := first | (refine c1_id ?_; assumption) | (refine c1_st rfl ?_; repeat (first | assumption | refine c1_st rfl ?_)) | omega) [nx_l, nx_r, nx_n, x_st, x_push, x_bin, x_div, x_un, x_dup, x_pop, x_dup2, x_goto, x_ifeq, x_ifne, x_iflt, x_ifge, x_ifgt, x_ifle, x_iceq, x_icne, x_iclt, x_icge, x_icgt, x_icle, x_ifnull, x_ifnonnull, x_ldi, x_lda, x_sti, x_sta, x_iinc, x_gf, x_pf, x_ald, x_ast, x_aln, x_len, x_cl_, x_cv, x_cs, x_rc, x_r0, x_isT, x_oi, x_rv, x_ri, x_ra, Value.category, t83_0, t83_1, t83_4, t83_6, t83_9, t83_11, t83_12, t83_13, t83_14, t83_17, t83_19, t83_20, t83_23, t83_26, t83_27, t83_29, t83_32, t83_35, t83_37, t83_39, t83_41, t83_44, t83_46, t83_49, t83_50, t83_51, t83_53, t83_56, t83_57, t83_59, t83_62, t83_64, t83_66, t83_69, t83_72, t83_74, t83_75, t83_76, t83_79, t83_82, t83_83, t83_86, t83_89, t83_90, t83_93, t83_94, t83_95, t83_96, t83_99, t83_100, t83_103, t83_104, t83_107, t83_108, t83_110, t83_113, t83_114, t83_116, t83_119, t83_121, t83_123, t83_126, t83_128, t83_130, t83_133, t83_135, t83_136, t83_137, t83_140, t83_143, t83_144, t83_145, t83_147, t83_150, t83_153, t83_156, t83_158, t83_159, t83_160, t83_161, t83_164, t83_165, t83_168, t83_171, t83_172, t83_175, t83_178, t83_180, t83_181, t83_183, t83_184, t83_186, t83_189, t83_191, t83_194, t83_197, t83_198, t83_200, t83_203, t83_205, t83_208, t83_209, t83_212, t83_213, lk_s, hp_get, hp_set, uH_at, uH_ne, uH_upd, uH_swap, iZ_add, iZ_sub, iZ_mul, iZ_neg, iZ_lt, iZ_le, iZ_eq, iZ_div, iZ_of, ix_Z, gZ_map, gZ_mapI, gZ_map', le_0, le_s, sZ_map, sZ_len, bZ_0, bZ_inj, bZ_t, bZ_f, nr_i, nr_0, nr_1, nr_b, ft_i, ft_b, ft_0, ft_1, zl_0, zl_1, zl_3, zl_4, zl_8, zl_30, k0, k1, k3, k5, k6, m7', m8', c0, nw', y3', mm, dk, -List.filter_filter, -List.getElem?_map, -List.getD_eq_getElem?_getD]
      obtain ⟨q1, q2'⟩ := run75 _ rfl
      exact ⟨fun z => g39 _ (q1 z), fun z => ⟨n, n2, lv8, hn, s1, s2, ⟨by assumption, k0, k1, k2, k3, k4, k5, k6⟩, m7', m8', fun res hres => g39 _ (q2' z res hres)⟩⟩
end ATT
