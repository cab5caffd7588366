/-! the reference: a step, its pieces -/
theorem f121_0 : x_fetch q_k121 0 = x_lda 1 0 := rfl
theorem t121_0 (C : xF) (s n : Nat) (z : xS) : x_to q_k121 C s (n + 1) 0 z = x_nx q_k121 C s n ((x_lda 1 0) C z) := x_to_at f121_0 C s n z
theorem f121_1 : x_fetch q_k121 1 = x_st (x_push 2 (.int (0))) := rfl
theorem t121_1 (C : xF) (s n : Nat) (z : xS) : x_to q_k121 C s (n + 1) 1 z = x_nx q_k121 C s n ((x_st (x_push 2 (.int (0)))) C z) := x_to_at f121_1 C s n z
theorem f121_2 : x_fetch q_k121 2 = x_pf 5 8 0 (.int) := rfl
theorem t121_2 (C : xF) (s n : Nat) (z : xS) : x_to q_k121 C s (n + 1) 2 z = x_nx q_k121 C s n ((x_pf 5 8 0 (.int)) C z) := x_to_at f121_2 C s n z
theorem f121_5 : x_fetch q_k121 5 = x_lda 6 0 := rfl
theorem t121_5 (C : xF) (s n : Nat) (z : xS) : x_to q_k121 C s (n + 1) 5 z = x_nx q_k121 C s n ((x_lda 6 0) C z) := x_to_at f121_5 C s n z
theorem f121_6 : x_fetch q_k121 6 = x_st (x_push 7 (.int (0))) := rfl
theorem t121_6 (C : xF) (s n : Nat) (z : xS) : x_to q_k121 C s (n + 1) 6 z = x_nx q_k121 C s n ((x_st (x_push 7 (.int (0)))) C z) := x_to_at f121_6 C s n z
theorem f121_7 : x_fetch q_k121 7 = x_pf 10 8 1 (.int) := rfl
theorem t121_7 (C : xF) (s n : Nat) (z : xS) : x_to q_k121 C s (n + 1) 7 z = x_nx q_k121 C s n ((x_pf 10 8 1 (.int)) C z) := x_to_at f121_7 C s n z
theorem f121_10 : x_fetch q_k121 10 = x_lda 11 0 := rfl
theorem t121_10 (C : xF) (s n : Nat) (z : xS) : x_to q_k121 C s (n + 1) 10 z = x_nx q_k121 C s n ((x_lda 11 0) C z) := x_to_at f121_10 C s n z
theorem f121_11 : x_fetch q_k121 11 = x_gf 14 8 2 := rfl
theorem t121_11 (C : xF) (s n : Nat) (z : xS) : x_to q_k121 C s (n + 1) 11 z = x_nx q_k121 C s n ((x_gf 14 8 2) C z) := x_to_at f121_11 C s n z
theorem f121_14 : x_fetch q_k121 14 = x_st (x_push 16 (.int (30))) := rfl
theorem t121_14 (C : xF) (s n : Nat) (z : xS) : x_to q_k121 C s (n + 1) 14 z = x_nx q_k121 C s n ((x_st (x_push 16 (.int (30)))) C z) := x_to_at f121_14 C s n z
theorem f121_16 : x_fetch q_k121 16 = x_st (x_icne 23 19) := rfl
theorem t121_16 (C : xF) (s n : Nat) (z : xS) : x_to q_k121 C s (n + 1) 16 z = x_nx q_k121 C s n ((x_st (x_icne 23 19)) C z) := x_to_at f121_16 C s n z
theorem f121_19 : x_fetch q_k121 19 = x_st (x_push 20 (.int (1))) := rfl
theorem t121_19 (C : xF) (s n : Nat) (z : xS) : x_to q_k121 C s (n + 1) 19 z = x_nx q_k121 C s n ((x_st (x_push 20 (.int (1)))) C z) := x_to_at f121_19 C s n z
theorem f121_20 : x_fetch q_k121 20 = x_st (x_goto 24) := rfl
theorem t121_20 (C : xF) (s n : Nat) (z : xS) : x_to q_k121 C s (n + 1) 20 z = x_nx q_k121 C s n ((x_st (x_goto 24)) C z) := x_to_at f121_20 C s n z
theorem f121_23 : x_fetch q_k121 23 = x_st (x_push 24 (.int (0))) := rfl
theorem t121_23 (C : xF) (s n : Nat) (z : xS) : x_to q_k121 C s (n + 1) 23 z = x_nx q_k121 C s n ((x_st (x_push 24 (.int (0)))) C z) := x_to_at f121_23 C s n z
theorem f121_24 : x_fetch q_k121 24 = x_sti 26 7 := rfl
theorem t121_24 (C : xF) (s n : Nat) (z : xS) : x_to q_k121 C s (n + 1) 24 z = x_nx q_k121 C s n ((x_sti 26 7) C z) := x_to_at f121_24 C s n z
theorem f121_26 : x_fetch q_k121 26 = x_ldi 28 7 := rfl
theorem t121_26 (C : xF) (s n : Nat) (z : xS) : x_to q_k121 C s (n + 1) 26 z = x_nx q_k121 C s n ((x_ldi 28 7) C z) := x_to_at f121_26 C s n z
theorem f121_28 : x_fetch q_k121 28 = x_st (x_ifne 51 31) := rfl
theorem t121_28 (C : xF) (s n : Nat) (z : xS) : x_to q_k121 C s (n + 1) 28 z = x_nx q_k121 C s n ((x_st (x_ifne 51 31)) C z) := x_to_at f121_28 C s n z
theorem f121_31 : x_fetch q_k121 31 = x_lda 32 0 := rfl
theorem t121_31 (C : xF) (s n : Nat) (z : xS) : x_to q_k121 C s (n + 1) 31 z = x_nx q_k121 C s n ((x_lda 32 0) C z) := x_to_at f121_31 C s n z
theorem f121_32 : x_fetch q_k121 32 = x_ldi 33 1 := rfl
theorem t121_32 (C : xF) (s n : Nat) (z : xS) : x_to q_k121 C s (n + 1) 32 z = x_nx q_k121 C s n ((x_ldi 33 1) C z) := x_to_at f121_32 C s n z
theorem f121_33 : x_fetch q_k121 33 = x_ldi 34 2 := rfl
theorem t121_33 (C : xF) (s n : Nat) (z : xS) : x_to q_k121 C s (n + 1) 33 z = x_nx q_k121 C s n ((x_ldi 34 2) C z) := x_to_at f121_33 C s n z
theorem f121_34 : x_fetch q_k121 34 = x_ldi 35 3 := rfl
theorem t121_34 (C : xF) (s n : Nat) (z : xS) : x_to q_k121 C s (n + 1) 34 z = x_nx q_k121 C s n ((x_ldi 35 3) C z) := x_to_at f121_34 C s n z
theorem f121_35 : x_fetch q_k121 35 = x_ldi 37 4 := rfl
theorem t121_35 (C : xF) (s n : Nat) (z : xS) : x_to q_k121 C s (n + 1) 35 z = x_nx q_k121 C s n ((x_ldi 37 4) C z) := x_to_at f121_35 C s n z
theorem f121_37 : x_fetch q_k121 37 = x_ldi 39 5 := rfl
theorem t121_37 (C : xF) (s n : Nat) (z : xS) : x_to q_k121 C s (n + 1) 37 z = x_nx q_k121 C s n ((x_ldi 39 5) C z) := x_to_at f121_37 C s n z
theorem f121_39 : x_fetch q_k121 39 = x_ldi 41 6 := rfl
theorem t121_39 (C : xF) (s n : Nat) (z : xS) : x_to q_k121 C s (n + 1) 39 z = x_nx q_k121 C s n ((x_ldi 41 6) C z) := x_to_at f121_39 C s n z
theorem f121_41 : x_fetch q_k121 41 = x_cv 44 120 7 8 := rfl
theorem t121_41 (C : xF) (s n : Nat) (z : xS) : x_to q_k121 C s (n + 1) 41 z = x_nx q_k121 C s n ((x_cv 44 120 7 8) C z) := x_to_at f121_41 C s n z
theorem f121_44 : x_fetch q_k121 44 = x_st (x_ifeq 51 47) := rfl
theorem t121_44 (C : xF) (s n : Nat) (z : xS) : x_to q_k121 C s (n + 1) 44 z = x_nx q_k121 C s n ((x_st (x_ifeq 51 47)) C z) := x_to_at f121_44 C s n z
theorem f121_47 : x_fetch q_k121 47 = x_st (x_push 48 (.int (1))) := rfl
theorem t121_47 (C : xF) (s n : Nat) (z : xS) : x_to q_k121 C s (n + 1) 47 z = x_nx q_k121 C s n ((x_st (x_push 48 (.int (1)))) C z) := x_to_at f121_47 C s n z
theorem f121_48 : x_fetch q_k121 48 = x_st (x_goto 52) := rfl
theorem t121_48 (C : xF) (s n : Nat) (z : xS) : x_to q_k121 C s (n + 1) 48 z = x_nx q_k121 C s n ((x_st (x_goto 52)) C z) := x_to_at f121_48 C s n z
theorem f121_51 : x_fetch q_k121 51 = x_st (x_push 52 (.int (0))) := rfl
theorem t121_51 (C : xF) (s n : Nat) (z : xS) : x_to q_k121 C s (n + 1) 51 z = x_nx q_k121 C s n ((x_st (x_push 52 (.int (0)))) C z) := x_to_at f121_51 C s n z
theorem f121_52 : x_fetch q_k121 52 = x_sti 54 8 := rfl
theorem t121_52 (C : xF) (s n : Nat) (z : xS) : x_to q_k121 C s (n + 1) 52 z = x_nx q_k121 C s n ((x_sti 54 8) C z) := x_to_at f121_52 C s n z
theorem f121_54 : x_fetch q_k121 54 = x_lda 55 0 := rfl
theorem t121_54 (C : xF) (s n : Nat) (z : xS) : x_to q_k121 C s (n + 1) 54 z = x_nx q_k121 C s n ((x_lda 55 0) C z) := x_to_at f121_54 C s n z
theorem f121_55 : x_fetch q_k121 55 = x_gf 58 8 13 := rfl
theorem t121_55 (C : xF) (s n : Nat) (z : xS) : x_to q_k121 C s (n + 1) 55 z = x_nx q_k121 C s n ((x_gf 58 8 13) C z) := x_to_at f121_55 C s n z
theorem f121_58 : x_fetch q_k121 58 = x_st (x_ifle 65 61) := rfl
theorem t121_58 (C : xF) (s n : Nat) (z : xS) : x_to q_k121 C s (n + 1) 58 z = x_nx q_k121 C s n ((x_st (x_ifle 65 61)) C z) := x_to_at f121_58 C s n z
theorem f121_61 : x_fetch q_k121 61 = x_st (x_push 62 (.int (1))) := rfl
theorem t121_61 (C : xF) (s n : Nat) (z : xS) : x_to q_k121 C s (n + 1) 61 z = x_nx q_k121 C s n ((x_st (x_push 62 (.int (1)))) C z) := x_to_at f121_61 C s n z
theorem f121_62 : x_fetch q_k121 62 = x_st (x_goto 66) := rfl
theorem t121_62 (C : xF) (s n : Nat) (z : xS) : x_to q_k121 C s (n + 1) 62 z = x_nx q_k121 C s n ((x_st (x_goto 66)) C z) := x_to_at f121_62 C s n z
theorem f121_65 : x_fetch q_k121 65 = x_st (x_push 66 (.int (0))) := rfl
theorem t121_65 (C : xF) (s n : Nat) (z : xS) : x_to q_k121 C s (n + 1) 65 z = x_nx q_k121 C s n ((x_st (x_push 66 (.int (0)))) C z) := x_to_at f121_65 C s n z
theorem f121_66 : x_fetch q_k121 66 = x_sti 68 9 := rfl
theorem t121_66 (C : xF) (s n : Nat) (z : xS) : x_to q_k121 C s (n + 1) 66 z = x_nx q_k121 C s n ((x_sti 68 9) C z) := x_to_at f121_66 C s n z
theorem f121_68 : x_fetch q_k121 68 = x_ldi 70 8 := rfl
theorem t121_68 (C : xF) (s n : Nat) (z : xS) : x_to q_k121 C s (n + 1) 68 z = x_nx q_k121 C s n ((x_ldi 70 8) C z) := x_to_at f121_68 C s n z
theorem f121_70 : x_fetch q_k121 70 = x_st (x_ifeq 85 73) := rfl
theorem t121_70 (C : xF) (s n : Nat) (z : xS) : x_to q_k121 C s (n + 1) 70 z = x_nx q_k121 C s n ((x_st (x_ifeq 85 73)) C z) := x_to_at f121_70 C s n z
theorem f121_73 : x_fetch q_k121 73 = x_ldi 75 9 := rfl
theorem t121_73 (C : xF) (s n : Nat) (z : xS) : x_to q_k121 C s (n + 1) 73 z = x_nx q_k121 C s n ((x_ldi 75 9) C z) := x_to_at f121_73 C s n z
theorem f121_75 : x_fetch q_k121 75 = x_st (x_ifeq 85 78) := rfl
theorem t121_75 (C : xF) (s n : Nat) (z : xS) : x_to q_k121 C s (n + 1) 75 z = x_nx q_k121 C s n ((x_st (x_ifeq 85 78)) C z) := x_to_at f121_75 C s n z
theorem f121_78 : x_fetch q_k121 78 = x_lda 79 0 := rfl
theorem t121_78 (C : xF) (s n : Nat) (z : xS) : x_to q_k121 C s (n + 1) 78 z = x_nx q_k121 C s n ((x_lda 79 0) C z) := x_to_at f121_78 C s n z
theorem f121_79 : x_fetch q_k121 79 = x_cv 82 105 1 8 := rfl
theorem t121_79 (C : xF) (s n : Nat) (z : xS) : x_to q_k121 C s (n + 1) 79 z = x_nx q_k121 C s n ((x_cv 82 105 1 8) C z) := x_to_at f121_79 C s n z
theorem f121_82 : x_fetch q_k121 82 = x_st (x_goto 86) := rfl
theorem t121_82 (C : xF) (s n : Nat) (z : xS) : x_to q_k121 C s (n + 1) 82 z = x_nx q_k121 C s n ((x_st (x_goto 86)) C z) := x_to_at f121_82 C s n z
theorem f121_85 : x_fetch q_k121 85 = x_st (x_push 86 (.int (0))) := rfl
theorem t121_85 (C : xF) (s n : Nat) (z : xS) : x_to q_k121 C s (n + 1) 85 z = x_nx q_k121 C s n ((x_st (x_push 86 (.int (0)))) C z) := x_to_at f121_85 C s n z
theorem f121_86 : x_fetch q_k121 86 = x_sti 88 10 := rfl
theorem t121_86 (C : xF) (s n : Nat) (z : xS) : x_to q_k121 C s (n + 1) 86 z = x_nx q_k121 C s n ((x_sti 88 10) C z) := x_to_at f121_86 C s n z
theorem f121_88 : x_fetch q_k121 88 = x_lda 89 0 := rfl
theorem t121_88 (C : xF) (s n : Nat) (z : xS) : x_to q_k121 C s (n + 1) 88 z = x_nx q_k121 C s n ((x_lda 89 0) C z) := x_to_at f121_88 C s n z
theorem f121_89 : x_fetch q_k121 89 = x_st (x_push 90 (.int (0))) := rfl
theorem t121_89 (C : xF) (s n : Nat) (z : xS) : x_to q_k121 C s (n + 1) 89 z = x_nx q_k121 C s n ((x_st (x_push 90 (.int (0)))) C z) := x_to_at f121_89 C s n z
theorem f121_90 : x_fetch q_k121 90 = x_pf 93 8 13 (.int) := rfl
theorem t121_90 (C : xF) (s n : Nat) (z : xS) : x_to q_k121 C s (n + 1) 90 z = x_nx q_k121 C s n ((x_pf 93 8 13 (.int)) C z) := x_to_at f121_90 C s n z
theorem f121_93 : x_fetch q_k121 93 = x_ldi 95 7 := rfl
theorem t121_93 (C : xF) (s n : Nat) (z : xS) : x_to q_k121 C s (n + 1) 93 z = x_nx q_k121 C s n ((x_ldi 95 7) C z) := x_to_at f121_93 C s n z
theorem f121_95 : x_fetch q_k121 95 = x_st (x_ifeq 106 98) := rfl
theorem t121_95 (C : xF) (s n : Nat) (z : xS) : x_to q_k121 C s (n + 1) 95 z = x_nx q_k121 C s n ((x_st (x_ifeq 106 98)) C z) := x_to_at f121_95 C s n z
theorem f121_98 : x_fetch q_k121 98 = x_lda 99 0 := rfl
theorem t121_98 (C : xF) (s n : Nat) (z : xS) : x_to q_k121 C s (n + 1) 98 z = x_nx q_k121 C s n ((x_lda 99 0) C z) := x_to_at f121_98 C s n z
theorem f121_99 : x_fetch q_k121 99 = x_st (x_push 100 (.int (1))) := rfl
theorem t121_99 (C : xF) (s n : Nat) (z : xS) : x_to q_k121 C s (n + 1) 99 z = x_nx q_k121 C s n ((x_st (x_push 100 (.int (1)))) C z) := x_to_at f121_99 C s n z
theorem f121_100 : x_fetch q_k121 100 = x_st (x_push 102 (.int (-3))) := rfl
theorem t121_100 (C : xF) (s n : Nat) (z : xS) : x_to q_k121 C s (n + 1) 100 z = x_nx q_k121 C s n ((x_st (x_push 102 (.int (-3)))) C z) := x_to_at f121_100 C s n z
theorem f121_102 : x_fetch q_k121 102 = x_cv 105 93 3 8 := rfl
theorem t121_102 (C : xF) (s n : Nat) (z : xS) : x_to q_k121 C s (n + 1) 102 z = x_nx q_k121 C s n ((x_cv 105 93 3 8) C z) := x_to_at f121_102 C s n z
theorem f121_105 : x_fetch q_k121 105 = x_ri (.int) := rfl
theorem t121_105 (C : xF) (s n : Nat) (z : xS) : x_to q_k121 C s (n + 1) 105 z = x_nx q_k121 C s n ((x_ri (.int)) C z) := x_to_at f121_105 C s n z
theorem f121_106 : x_fetch q_k121 106 = x_ldi 108 8 := rfl
theorem t121_106 (C : xF) (s n : Nat) (z : xS) : x_to q_k121 C s (n + 1) 106 z = x_nx q_k121 C s n ((x_ldi 108 8) C z) := x_to_at f121_106 C s n z
theorem f121_108 : x_fetch q_k121 108 = x_st (x_ifne 119 111) := rfl
theorem t121_108 (C : xF) (s n : Nat) (z : xS) : x_to q_k121 C s (n + 1) 108 z = x_nx q_k121 C s n ((x_st (x_ifne 119 111)) C z) := x_to_at f121_108 C s n z
theorem f121_111 : x_fetch q_k121 111 = x_lda 112 0 := rfl
theorem t121_111 (C : xF) (s n : Nat) (z : xS) : x_to q_k121 C s (n + 1) 111 z = x_nx q_k121 C s n ((x_lda 112 0) C z) := x_to_at f121_111 C s n z
theorem f121_112 : x_fetch q_k121 112 = x_st (x_push 113 (.int (2))) := rfl
theorem t121_112 (C : xF) (s n : Nat) (z : xS) : x_to q_k121 C s (n + 1) 112 z = x_nx q_k121 C s n ((x_st (x_push 113 (.int (2)))) C z) := x_to_at f121_112 C s n z
theorem f121_113 : x_fetch q_k121 113 = x_st (x_push 115 (.int (-4))) := rfl
theorem t121_113 (C : xF) (s n : Nat) (z : xS) : x_to q_k121 C s (n + 1) 113 z = x_nx q_k121 C s n ((x_st (x_push 115 (.int (-4)))) C z) := x_to_at f121_113 C s n z
theorem f121_115 : x_fetch q_k121 115 = x_cv 118 93 3 8 := rfl
theorem t121_115 (C : xF) (s n : Nat) (z : xS) : x_to q_k121 C s (n + 1) 115 z = x_nx q_k121 C s n ((x_cv 118 93 3 8) C z) := x_to_at f121_115 C s n z
theorem f121_118 : x_fetch q_k121 118 = x_ri (.int) := rfl
theorem t121_118 (C : xF) (s n : Nat) (z : xS) : x_to q_k121 C s (n + 1) 118 z = x_nx q_k121 C s n ((x_ri (.int)) C z) := x_to_at f121_118 C s n z
theorem f121_119 : x_fetch q_k121 119 = x_ldi 121 10 := rfl
theorem t121_119 (C : xF) (s n : Nat) (z : xS) : x_to q_k121 C s (n + 1) 119 z = x_nx q_k121 C s n ((x_ldi 121 10) C z) := x_to_at f121_119 C s n z
theorem f121_121 : x_fetch q_k121 121 = x_st (x_ifge 132 124) := rfl
theorem t121_121 (C : xF) (s n : Nat) (z : xS) : x_to q_k121 C s (n + 1) 121 z = x_nx q_k121 C s n ((x_st (x_ifge 132 124)) C z) := x_to_at f121_121 C s n z
theorem f121_124 : x_fetch q_k121 124 = x_lda 125 0 := rfl
theorem t121_124 (C : xF) (s n : Nat) (z : xS) : x_to q_k121 C s (n + 1) 124 z = x_nx q_k121 C s n ((x_lda 125 0) C z) := x_to_at f121_124 C s n z
theorem f121_125 : x_fetch q_k121 125 = x_st (x_push 126 (.int (3))) := rfl
theorem t121_125 (C : xF) (s n : Nat) (z : xS) : x_to q_k121 C s (n + 1) 125 z = x_nx q_k121 C s n ((x_st (x_push 126 (.int (3)))) C z) := x_to_at f121_125 C s n z
theorem f121_126 : x_fetch q_k121 126 = x_ldi 128 10 := rfl
theorem t121_126 (C : xF) (s n : Nat) (z : xS) : x_to q_k121 C s (n + 1) 126 z = x_nx q_k121 C s n ((x_ldi 128 10) C z) := x_to_at f121_126 C s n z
theorem f121_128 : x_fetch q_k121 128 = x_cv 131 93 3 8 := rfl
theorem t121_128 (C : xF) (s n : Nat) (z : xS) : x_to q_k121 C s (n + 1) 128 z = x_nx q_k121 C s n ((x_cv 131 93 3 8) C z) := x_to_at f121_128 C s n z
theorem f121_131 : x_fetch q_k121 131 = x_ri (.int) := rfl
theorem t121_131 (C : xF) (s n : Nat) (z : xS) : x_to q_k121 C s (n + 1) 131 z = x_nx q_k121 C s n ((x_ri (.int)) C z) := x_to_at f121_131 C s n z
theorem f121_132 : x_fetch q_k121 132 = x_ldi 134 9 := rfl
theorem t121_132 (C : xF) (s n : Nat) (z : xS) : x_to q_k121 C s (n + 1) 132 z = x_nx q_k121 C s n ((x_ldi 134 9) C z) := x_to_at f121_132 C s n z
theorem f121_134 : x_fetch q_k121 134 = x_st (x_ifeq 141 137) := rfl
theorem t121_134 (C : xF) (s n : Nat) (z : xS) : x_to q_k121 C s (n + 1) 134 z = x_nx q_k121 C s n ((x_st (x_ifeq 141 137)) C z) := x_to_at f121_134 C s n z
theorem f121_137 : x_fetch q_k121 137 = x_lda 138 0 := rfl
theorem t121_137 (C : xF) (s n : Nat) (z : xS) : x_to q_k121 C s (n + 1) 137 z = x_nx q_k121 C s n ((x_lda 138 0) C z) := x_to_at f121_137 C s n z
theorem f121_138 : x_fetch q_k121 138 = x_cv 141 122 1 8 := rfl
theorem t121_138 (C : xF) (s n : Nat) (z : xS) : x_to q_k121 C s (n + 1) 138 z = x_nx q_k121 C s n ((x_cv 141 122 1 8) C z) := x_to_at f121_138 C s n z
theorem f121_141 : x_fetch q_k121 141 = x_ldi 142 1 := rfl
theorem t121_141 (C : xF) (s n : Nat) (z : xS) : x_to q_k121 C s (n + 1) 141 z = x_nx q_k121 C s n ((x_ldi 142 1) C z) := x_to_at f121_141 C s n z
theorem f121_142 : x_fetch q_k121 142 = x_st (x_push 143 (.int (4))) := rfl
theorem t121_142 (C : xF) (s n : Nat) (z : xS) : x_to q_k121 C s (n + 1) 142 z = x_nx q_k121 C s n ((x_st (x_push 143 (.int (4)))) C z) := x_to_at f121_142 C s n z
theorem f121_143 : x_fetch q_k121 143 = x_st (x_icne 163 146) := rfl
theorem t121_143 (C : xF) (s n : Nat) (z : xS) : x_to q_k121 C s (n + 1) 143 z = x_nx q_k121 C s n ((x_st (x_icne 163 146)) C z) := x_to_at f121_143 C s n z
theorem f121_146 : x_fetch q_k121 146 = x_lda 147 0 := rfl
theorem t121_146 (C : xF) (s n : Nat) (z : xS) : x_to q_k121 C s (n + 1) 146 z = x_nx q_k121 C s n ((x_lda 147 0) C z) := x_to_at f121_146 C s n z
theorem f121_147 : x_fetch q_k121 147 = x_ldi 148 2 := rfl
theorem t121_147 (C : xF) (s n : Nat) (z : xS) : x_to q_k121 C s (n + 1) 147 z = x_nx q_k121 C s n ((x_ldi 148 2) C z) := x_to_at f121_147 C s n z
theorem f121_148 : x_fetch q_k121 148 = x_cv 151 130 2 8 := rfl
theorem t121_148 (C : xF) (s n : Nat) (z : xS) : x_to q_k121 C s (n + 1) 148 z = x_nx q_k121 C s n ((x_cv 151 130 2 8) C z) := x_to_at f121_148 C s n z
theorem f121_151 : x_fetch q_k121 151 = x_st (x_ifeq 158 154) := rfl
theorem t121_151 (C : xF) (s n : Nat) (z : xS) : x_to q_k121 C s (n + 1) 151 z = x_nx q_k121 C s n ((x_st (x_ifeq 158 154)) C z) := x_to_at f121_151 C s n z
theorem f121_154 : x_fetch q_k121 154 = x_st (x_push 155 (.int (0))) := rfl
theorem t121_154 (C : xF) (s n : Nat) (z : xS) : x_to q_k121 C s (n + 1) 154 z = x_nx q_k121 C s n ((x_st (x_push 155 (.int (0)))) C z) := x_to_at f121_154 C s n z
theorem f121_155 : x_fetch q_k121 155 = x_st (x_goto 176) := rfl
theorem t121_155 (C : xF) (s n : Nat) (z : xS) : x_to q_k121 C s (n + 1) 155 z = x_nx q_k121 C s n ((x_st (x_goto 176)) C z) := x_to_at f121_155 C s n z
theorem f121_158 : x_fetch q_k121 158 = x_st (x_push 160 (.int (-8))) := rfl
theorem t121_158 (C : xF) (s n : Nat) (z : xS) : x_to q_k121 C s (n + 1) 158 z = x_nx q_k121 C s n ((x_st (x_push 160 (.int (-8)))) C z) := x_to_at f121_158 C s n z
theorem f121_160 : x_fetch q_k121 160 = x_st (x_goto 176) := rfl
theorem t121_160 (C : xF) (s n : Nat) (z : xS) : x_to q_k121 C s (n + 1) 160 z = x_nx q_k121 C s n ((x_st (x_goto 176)) C z) := x_to_at f121_160 C s n z
theorem f121_163 : x_fetch q_k121 163 = x_lda 164 0 := rfl
theorem t121_163 (C : xF) (s n : Nat) (z : xS) : x_to q_k121 C s (n + 1) 163 z = x_nx q_k121 C s n ((x_lda 164 0) C z) := x_to_at f121_163 C s n z
theorem f121_164 : x_fetch q_k121 164 = x_ldi 165 1 := rfl
theorem t121_164 (C : xF) (s n : Nat) (z : xS) : x_to q_k121 C s (n + 1) 164 z = x_nx q_k121 C s n ((x_ldi 165 1) C z) := x_to_at f121_164 C s n z
theorem f121_165 : x_fetch q_k121 165 = x_ldi 166 2 := rfl
theorem t121_165 (C : xF) (s n : Nat) (z : xS) : x_to q_k121 C s (n + 1) 165 z = x_nx q_k121 C s n ((x_ldi 166 2) C z) := x_to_at f121_165 C s n z
theorem f121_166 : x_fetch q_k121 166 = x_ldi 167 3 := rfl
theorem t121_166 (C : xF) (s n : Nat) (z : xS) : x_to q_k121 C s (n + 1) 166 z = x_nx q_k121 C s n ((x_ldi 167 3) C z) := x_to_at f121_166 C s n z
theorem f121_167 : x_fetch q_k121 167 = x_ldi 169 4 := rfl
theorem t121_167 (C : xF) (s n : Nat) (z : xS) : x_to q_k121 C s (n + 1) 167 z = x_nx q_k121 C s n ((x_ldi 169 4) C z) := x_to_at f121_167 C s n z
theorem f121_169 : x_fetch q_k121 169 = x_ldi 171 5 := rfl
theorem t121_169 (C : xF) (s n : Nat) (z : xS) : x_to q_k121 C s (n + 1) 169 z = x_nx q_k121 C s n ((x_ldi 171 5) C z) := x_to_at f121_169 C s n z
theorem f121_171 : x_fetch q_k121 171 = x_ldi 173 6 := rfl
theorem t121_171 (C : xF) (s n : Nat) (z : xS) : x_to q_k121 C s (n + 1) 171 z = x_nx q_k121 C s n ((x_ldi 173 6) C z) := x_to_at f121_171 C s n z
set_option maxRecDepth 20000 in
theorem f121_173 : x_fetch q_k121 173 = x_cv 176 125 7 8 := rfl
theorem t121_173 (C : xF) (s n : Nat) (z : xS) : x_to q_k121 C s (n + 1) 173 z = x_nx q_k121 C s n ((x_cv 176 125 7 8) C z) := x_to_at f121_173 C s n z
set_option maxRecDepth 20000 in
theorem f121_176 : x_fetch q_k121 176 = x_sti 178 11 := rfl
theorem t121_176 (C : xF) (s n : Nat) (z : xS) : x_to q_k121 C s (n + 1) 176 z = x_nx q_k121 C s n ((x_sti 178 11) C z) := x_to_at f121_176 C s n z
set_option maxRecDepth 20000 in
theorem f121_178 : x_fetch q_k121 178 = x_ldi 180 11 := rfl
theorem t121_178 (C : xF) (s n : Nat) (z : xS) : x_to q_k121 C s (n + 1) 178 z = x_nx q_k121 C s n ((x_ldi 180 11) C z) := x_to_at f121_178 C s n z
set_option maxRecDepth 20000 in
theorem f121_180 : x_fetch q_k121 180 = x_st (x_ifne 204 183) := rfl
theorem t121_180 (C : xF) (s n : Nat) (z : xS) : x_to q_k121 C s (n + 1) 180 z = x_nx q_k121 C s n ((x_st (x_ifne 204 183)) C z) := x_to_at f121_180 C s n z
set_option maxRecDepth 20000 in
theorem f121_183 : x_fetch q_k121 183 = x_ldi 184 1 := rfl
theorem t121_183 (C : xF) (s n : Nat) (z : xS) : x_to q_k121 C s (n + 1) 183 z = x_nx q_k121 C s n ((x_ldi 184 1) C z) := x_to_at f121_183 C s n z
set_option maxRecDepth 20000 in
theorem f121_184 : x_fetch q_k121 184 = x_st (x_push 185 (.int (4))) := rfl
theorem t121_184 (C : xF) (s n : Nat) (z : xS) : x_to q_k121 C s (n + 1) 184 z = x_nx q_k121 C s n ((x_st (x_push 185 (.int (4)))) C z) := x_to_at f121_184 C s n z
set_option maxRecDepth 20000 in
theorem f121_185 : x_fetch q_k121 185 = x_st (x_icge 204 188) := rfl
theorem t121_185 (C : xF) (s n : Nat) (z : xS) : x_to q_k121 C s (n + 1) 185 z = x_nx q_k121 C s n ((x_st (x_icge 204 188)) C z) := x_to_at f121_185 C s n z
set_option maxRecDepth 20000 in
theorem f121_188 : x_fetch q_k121 188 = x_ldi 190 9 := rfl
theorem t121_188 (C : xF) (s n : Nat) (z : xS) : x_to q_k121 C s (n + 1) 188 z = x_nx q_k121 C s n ((x_ldi 190 9) C z) := x_to_at f121_188 C s n z
set_option maxRecDepth 20000 in
theorem f121_190 : x_fetch q_k121 190 = x_st (x_ifeq 204 193) := rfl
theorem t121_190 (C : xF) (s n : Nat) (z : xS) : x_to q_k121 C s (n + 1) 190 z = x_nx q_k121 C s n ((x_st (x_ifeq 204 193)) C z) := x_to_at f121_190 C s n z
set_option maxRecDepth 20000 in
theorem f121_193 : x_fetch q_k121 193 = x_lda 194 0 := rfl
theorem t121_193 (C : xF) (s n : Nat) (z : xS) : x_to q_k121 C s (n + 1) 193 z = x_nx q_k121 C s n ((x_lda 194 0) C z) := x_to_at f121_193 C s n z
set_option maxRecDepth 20000 in
theorem f121_194 : x_fetch q_k121 194 = x_cv 197 124 1 8 := rfl
theorem t121_194 (C : xF) (s n : Nat) (z : xS) : x_to q_k121 C s (n + 1) 194 z = x_nx q_k121 C s n ((x_cv 197 124 1 8) C z) := x_to_at f121_194 C s n z
set_option maxRecDepth 20000 in
theorem f121_197 : x_fetch q_k121 197 = x_st (x_ifne 204 200) := rfl
theorem t121_197 (C : xF) (s n : Nat) (z : xS) : x_to q_k121 C s (n + 1) 197 z = x_nx q_k121 C s n ((x_st (x_ifne 204 200)) C z) := x_to_at f121_197 C s n z
set_option maxRecDepth 20000 in
theorem f121_200 : x_fetch q_k121 200 = x_st (x_push 202 (.int (-8))) := rfl
theorem t121_200 (C : xF) (s n : Nat) (z : xS) : x_to q_k121 C s (n + 1) 200 z = x_nx q_k121 C s n ((x_st (x_push 202 (.int (-8)))) C z) := x_to_at f121_200 C s n z
set_option maxRecDepth 20000 in
theorem f121_202 : x_fetch q_k121 202 = x_sti 204 11 := rfl
theorem t121_202 (C : xF) (s n : Nat) (z : xS) : x_to q_k121 C s (n + 1) 202 z = x_nx q_k121 C s n ((x_sti 204 11) C z) := x_to_at f121_202 C s n z
set_option maxRecDepth 20000 in
theorem f121_204 : x_fetch q_k121 204 = x_ldi 206 11 := rfl
theorem t121_204 (C : xF) (s n : Nat) (z : xS) : x_to q_k121 C s (n + 1) 204 z = x_nx q_k121 C s n ((x_ldi 206 11) C z) := x_to_at f121_204 C s n z
set_option maxRecDepth 20000 in
theorem f121_206 : x_fetch q_k121 206 = x_st (x_ifge 217 209) := rfl
theorem t121_206 (C : xF) (s n : Nat) (z : xS) : x_to q_k121 C s (n + 1) 206 z = x_nx q_k121 C s n ((x_st (x_ifge 217 209)) C z) := x_to_at f121_206 C s n z
set_option maxRecDepth 20000 in
theorem f121_209 : x_fetch q_k121 209 = x_lda 210 0 := rfl
theorem t121_209 (C : xF) (s n : Nat) (z : xS) : x_to q_k121 C s (n + 1) 209 z = x_nx q_k121 C s n ((x_lda 210 0) C z) := x_to_at f121_209 C s n z
set_option maxRecDepth 20000 in
theorem f121_210 : x_fetch q_k121 210 = x_st (x_push 211 (.int (4))) := rfl
theorem t121_210 (C : xF) (s n : Nat) (z : xS) : x_to q_k121 C s (n + 1) 210 z = x_nx q_k121 C s n ((x_st (x_push 211 (.int (4)))) C z) := x_to_at f121_210 C s n z
set_option maxRecDepth 20000 in
theorem f121_211 : x_fetch q_k121 211 = x_ldi 213 11 := rfl
theorem t121_211 (C : xF) (s n : Nat) (z : xS) : x_to q_k121 C s (n + 1) 211 z = x_nx q_k121 C s n ((x_ldi 213 11) C z) := x_to_at f121_211 C s n z
set_option maxRecDepth 20000 in
theorem f121_213 : x_fetch q_k121 213 = x_cv 216 93 3 8 := rfl
theorem t121_213 (C : xF) (s n : Nat) (z : xS) : x_to q_k121 C s (n + 1) 213 z = x_nx q_k121 C s n ((x_cv 216 93 3 8) C z) := x_to_at f121_213 C s n z
set_option maxRecDepth 20000 in
theorem f121_216 : x_fetch q_k121 216 = x_ri (.int) := rfl
theorem t121_216 (C : xF) (s n : Nat) (z : xS) : x_to q_k121 C s (n + 1) 216 z = x_nx q_k121 C s n ((x_ri (.int)) C z) := x_to_at f121_216 C s n z
set_option maxRecDepth 20000 in
theorem f121_217 : x_fetch q_k121 217 = x_ldi 218 1 := rfl
theorem t121_217 (C : xF) (s n : Nat) (z : xS) : x_to q_k121 C s (n + 1) 217 z = x_nx q_k121 C s n ((x_ldi 218 1) C z) := x_to_at f121_217 C s n z
set_option maxRecDepth 20000 in
theorem f121_218 : x_fetch q_k121 218 = x_st (x_push 219 (.int (4))) := rfl
theorem t121_218 (C : xF) (s n : Nat) (z : xS) : x_to q_k121 C s (n + 1) 218 z = x_nx q_k121 C s n ((x_st (x_push 219 (.int (4)))) C z) := x_to_at f121_218 C s n z
set_option maxRecDepth 20000 in
theorem f121_219 : x_fetch q_k121 219 = x_st (x_icne 226 222) := rfl
theorem t121_219 (C : xF) (s n : Nat) (z : xS) : x_to q_k121 C s (n + 1) 219 z = x_nx q_k121 C s n ((x_st (x_icne 226 222)) C z) := x_to_at f121_219 C s n z
set_option maxRecDepth 20000 in
theorem f121_222 : x_fetch q_k121 222 = x_lda 223 0 := rfl
theorem t121_222 (C : xF) (s n : Nat) (z : xS) : x_to q_k121 C s (n + 1) 222 z = x_nx q_k121 C s n ((x_lda 223 0) C z) := x_to_at f121_222 C s n z
set_option maxRecDepth 20000 in
theorem f121_223 : x_fetch q_k121 223 = x_cv 226 123 1 8 := rfl
theorem t121_223 (C : xF) (s n : Nat) (z : xS) : x_to q_k121 C s (n + 1) 223 z = x_nx q_k121 C s n ((x_cv 226 123 1 8) C z) := x_to_at f121_223 C s n z
set_option maxRecDepth 20000 in
theorem f121_226 : x_fetch q_k121 226 = x_ldi 227 1 := rfl
theorem t121_226 (C : xF) (s n : Nat) (z : xS) : x_to q_k121 C s (n + 1) 226 z = x_nx q_k121 C s n ((x_ldi 227 1) C z) := x_to_at f121_226 C s n z
set_option maxRecDepth 20000 in
theorem f121_227 : x_fetch q_k121 227 = x_st (x_ifeq 235 230) := rfl
theorem t121_227 (C : xF) (s n : Nat) (z : xS) : x_to q_k121 C s (n + 1) 227 z = x_nx q_k121 C s n ((x_st (x_ifeq 235 230)) C z) := x_to_at f121_227 C s n z
set_option maxRecDepth 20000 in
theorem f121_230 : x_fetch q_k121 230 = x_ldi 231 1 := rfl
theorem t121_230 (C : xF) (s n : Nat) (z : xS) : x_to q_k121 C s (n + 1) 230 z = x_nx q_k121 C s n ((x_ldi 231 1) C z) := x_to_at f121_230 C s n z
set_option maxRecDepth 20000 in
theorem f121_231 : x_fetch q_k121 231 = x_st (x_push 232 (.int (3))) := rfl
theorem t121_231 (C : xF) (s n : Nat) (z : xS) : x_to q_k121 C s (n + 1) 231 z = x_nx q_k121 C s n ((x_st (x_push 232 (.int (3)))) C z) := x_to_at f121_231 C s n z
set_option maxRecDepth 20000 in
theorem f121_232 : x_fetch q_k121 232 = x_st (x_icne 239 235) := rfl
theorem t121_232 (C : xF) (s n : Nat) (z : xS) : x_to q_k121 C s (n + 1) 232 z = x_nx q_k121 C s n ((x_st (x_icne 239 235)) C z) := x_to_at f121_232 C s n z
set_option maxRecDepth 20000 in
theorem f121_235 : x_fetch q_k121 235 = x_st (x_push 236 (.int (1))) := rfl
theorem t121_235 (C : xF) (s n : Nat) (z : xS) : x_to q_k121 C s (n + 1) 235 z = x_nx q_k121 C s n ((x_st (x_push 236 (.int (1)))) C z) := x_to_at f121_235 C s n z
set_option maxRecDepth 20000 in
theorem f121_236 : x_fetch q_k121 236 = x_st (x_goto 240) := rfl
theorem t121_236 (C : xF) (s n : Nat) (z : xS) : x_to q_k121 C s (n + 1) 236 z = x_nx q_k121 C s n ((x_st (x_goto 240)) C z) := x_to_at f121_236 C s n z
set_option maxRecDepth 20000 in
theorem f121_239 : x_fetch q_k121 239 = x_st (x_push 240 (.int (0))) := rfl
theorem t121_239 (C : xF) (s n : Nat) (z : xS) : x_to q_k121 C s (n + 1) 239 z = x_nx q_k121 C s n ((x_st (x_push 240 (.int (0)))) C z) := x_to_at f121_239 C s n z
set_option maxRecDepth 20000 in
theorem f121_240 : x_fetch q_k121 240 = x_sti 242 12 := rfl
theorem t121_240 (C : xF) (s n : Nat) (z : xS) : x_to q_k121 C s (n + 1) 240 z = x_nx q_k121 C s n ((x_sti 242 12) C z) := x_to_at f121_240 C s n z
set_option maxRecDepth 20000 in
theorem f121_242 : x_fetch q_k121 242 = x_ldi 244 12 := rfl
theorem t121_242 (C : xF) (s n : Nat) (z : xS) : x_to q_k121 C s (n + 1) 242 z = x_nx q_k121 C s n ((x_ldi 244 12) C z) := x_to_at f121_242 C s n z
set_option maxRecDepth 20000 in
theorem f121_244 : x_fetch q_k121 244 = x_st (x_ifeq 273 247) := rfl
theorem t121_244 (C : xF) (s n : Nat) (z : xS) : x_to q_k121 C s (n + 1) 244 z = x_nx q_k121 C s n ((x_st (x_ifeq 273 247)) C z) := x_to_at f121_244 C s n z
set_option maxRecDepth 20000 in
theorem f121_247 : x_fetch q_k121 247 = x_lda 248 0 := rfl
theorem t121_247 (C : xF) (s n : Nat) (z : xS) : x_to q_k121 C s (n + 1) 247 z = x_nx q_k121 C s n ((x_lda 248 0) C z) := x_to_at f121_247 C s n z
set_option maxRecDepth 20000 in
theorem f121_248 : x_fetch q_k121 248 = x_gf 251 8 6 := rfl
theorem t121_248 (C : xF) (s n : Nat) (z : xS) : x_to q_k121 C s (n + 1) 248 z = x_nx q_k121 C s n ((x_gf 251 8 6) C z) := x_to_at f121_248 C s n z
set_option maxRecDepth 20000 in
theorem f121_251 : x_fetch q_k121 251 = x_ldi 253 4 := rfl
theorem t121_251 (C : xF) (s n : Nat) (z : xS) : x_to q_k121 C s (n + 1) 251 z = x_nx q_k121 C s n ((x_ldi 253 4) C z) := x_to_at f121_251 C s n z
set_option maxRecDepth 20000 in
theorem f121_253 : x_fetch q_k121 253 = x_ald 254 0 := rfl
theorem t121_253 (C : xF) (s n : Nat) (z : xS) : x_to q_k121 C s (n + 1) 253 z = x_nx q_k121 C s n ((x_ald 254 0) C z) := x_to_at f121_253 C s n z
set_option maxRecDepth 20000 in
theorem f121_254 : x_fetch q_k121 254 = x_lda 255 0 := rfl
theorem t121_254 (C : xF) (s n : Nat) (z : xS) : x_to q_k121 C s (n + 1) 254 z = x_nx q_k121 C s n ((x_lda 255 0) C z) := x_to_at f121_254 C s n z
set_option maxRecDepth 20000 in
theorem f121_255 : x_fetch q_k121 255 = x_gf 258 8 6 := rfl
theorem t121_255 (C : xF) (s n : Nat) (z : xS) : x_to q_k121 C s (n + 1) 255 z = x_nx q_k121 C s n ((x_gf 258 8 6) C z) := x_to_at f121_255 C s n z
set_option maxRecDepth 20000 in
theorem f121_258 : x_fetch q_k121 258 = x_ldi 259 2 := rfl
theorem t121_258 (C : xF) (s n : Nat) (z : xS) : x_to q_k121 C s (n + 1) 258 z = x_nx q_k121 C s n ((x_ldi 259 2) C z) := x_to_at f121_258 C s n z
set_option maxRecDepth 20000 in
theorem f121_259 : x_fetch q_k121 259 = x_ald 260 0 := rfl
theorem t121_259 (C : xF) (s n : Nat) (z : xS) : x_to q_k121 C s (n + 1) 259 z = x_nx q_k121 C s n ((x_ald 260 0) C z) := x_to_at f121_259 C s n z
set_option maxRecDepth 20000 in
theorem f121_260 : x_fetch q_k121 260 = x_st (x_icle 273 263) := rfl
theorem t121_260 (C : xF) (s n : Nat) (z : xS) : x_to q_k121 C s (n + 1) 260 z = x_nx q_k121 C s n ((x_st (x_icle 273 263)) C z) := x_to_at f121_260 C s n z
set_option maxRecDepth 20000 in
theorem f121_263 : x_fetch q_k121 263 = x_lda 264 0 := rfl
theorem t121_263 (C : xF) (s n : Nat) (z : xS) : x_to q_k121 C s (n + 1) 263 z = x_nx q_k121 C s n ((x_lda 264 0) C z) := x_to_at f121_263 C s n z
set_option maxRecDepth 20000 in
theorem f121_264 : x_fetch q_k121 264 = x_gf 267 8 6 := rfl
theorem t121_264 (C : xF) (s n : Nat) (z : xS) : x_to q_k121 C s (n + 1) 264 z = x_nx q_k121 C s n ((x_gf 267 8 6) C z) := x_to_at f121_264 C s n z
set_option maxRecDepth 20000 in
theorem f121_267 : x_fetch q_k121 267 = x_ldi 269 4 := rfl
theorem t121_267 (C : xF) (s n : Nat) (z : xS) : x_to q_k121 C s (n + 1) 267 z = x_nx q_k121 C s n ((x_ldi 269 4) C z) := x_to_at f121_267 C s n z
set_option maxRecDepth 20000 in
theorem f121_269 : x_fetch q_k121 269 = x_ald 270 0 := rfl
theorem t121_269 (C : xF) (s n : Nat) (z : xS) : x_to q_k121 C s (n + 1) 269 z = x_nx q_k121 C s n ((x_ald 270 0) C z) := x_to_at f121_269 C s n z
set_option maxRecDepth 20000 in
theorem f121_270 : x_fetch q_k121 270 = x_st (x_goto 279) := rfl
theorem t121_270 (C : xF) (s n : Nat) (z : xS) : x_to q_k121 C s (n + 1) 270 z = x_nx q_k121 C s n ((x_st (x_goto 279)) C z) := x_to_at f121_270 C s n z
set_option maxRecDepth 20000 in
theorem f121_273 : x_fetch q_k121 273 = x_lda 274 0 := rfl
theorem t121_273 (C : xF) (s n : Nat) (z : xS) : x_to q_k121 C s (n + 1) 273 z = x_nx q_k121 C s n ((x_lda 274 0) C z) := x_to_at f121_273 C s n z
set_option maxRecDepth 20000 in
theorem f121_274 : x_fetch q_k121 274 = x_gf 277 8 6 := rfl
theorem t121_274 (C : xF) (s n : Nat) (z : xS) : x_to q_k121 C s (n + 1) 274 z = x_nx q_k121 C s n ((x_gf 277 8 6) C z) := x_to_at f121_274 C s n z
set_option maxRecDepth 20000 in
theorem f121_277 : x_fetch q_k121 277 = x_ldi 278 2 := rfl
theorem t121_277 (C : xF) (s n : Nat) (z : xS) : x_to q_k121 C s (n + 1) 277 z = x_nx q_k121 C s n ((x_ldi 278 2) C z) := x_to_at f121_277 C s n z
set_option maxRecDepth 20000 in
theorem f121_278 : x_fetch q_k121 278 = x_ald 279 0 := rfl
theorem t121_278 (C : xF) (s n : Nat) (z : xS) : x_to q_k121 C s (n + 1) 278 z = x_nx q_k121 C s n ((x_ald 279 0) C z) := x_to_at f121_278 C s n z
set_option maxRecDepth 20000 in
theorem f121_279 : x_fetch q_k121 279 = x_sti 281 13 := rfl
theorem t121_279 (C : xF) (s n : Nat) (z : xS) : x_to q_k121 C s (n + 1) 279 z = x_nx q_k121 C s n ((x_sti 281 13) C z) := x_to_at f121_279 C s n z
set_option maxRecDepth 20000 in
theorem f121_281 : x_fetch q_k121 281 = x_lda 282 0 := rfl
theorem t121_281 (C : xF) (s n : Nat) (z : xS) : x_to q_k121 C s (n + 1) 281 z = x_nx q_k121 C s n ((x_lda 282 0) C z) := x_to_at f121_281 C s n z
set_option maxRecDepth 20000 in
theorem f121_282 : x_fetch q_k121 282 = x_st (x_push 283 (.int (0))) := rfl
theorem t121_282 (C : xF) (s n : Nat) (z : xS) : x_to q_k121 C s (n + 1) 282 z = x_nx q_k121 C s n ((x_st (x_push 283 (.int (0)))) C z) := x_to_at f121_282 C s n z
set_option maxRecDepth 20000 in
theorem f121_283 : x_fetch q_k121 283 = x_ldi 285 13 := rfl
theorem t121_283 (C : xF) (s n : Nat) (z : xS) : x_to q_k121 C s (n + 1) 283 z = x_nx q_k121 C s n ((x_ldi 285 13) C z) := x_to_at f121_283 C s n z
set_option maxRecDepth 20000 in
theorem f121_285 : x_fetch q_k121 285 = x_st (x_push 286 (.int (1))) := rfl
theorem t121_285 (C : xF) (s n : Nat) (z : xS) : x_to q_k121 C s (n + 1) 285 z = x_nx q_k121 C s n ((x_st (x_push 286 (.int (1)))) C z) := x_to_at f121_285 C s n z
set_option maxRecDepth 20000 in
theorem f121_286 : x_fetch q_k121 286 = x_st (x_bin 287 (fun a b => a + b)) := rfl
theorem t121_286 (C : xF) (s n : Nat) (z : xS) : x_to q_k121 C s (n + 1) 286 z = x_nx q_k121 C s n ((x_st (x_bin 287 (fun a b => a + b))) C z) := x_to_at f121_286 C s n z
set_option maxRecDepth 20000 in
theorem f121_287 : x_fetch q_k121 287 = x_ldi 289 12 := rfl
theorem t121_287 (C : xF) (s n : Nat) (z : xS) : x_to q_k121 C s (n + 1) 287 z = x_nx q_k121 C s n ((x_ldi 289 12) C z) := x_to_at f121_287 C s n z
set_option maxRecDepth 20000 in
theorem f121_289 : x_fetch q_k121 289 = x_st (x_ifeq 309 292) := rfl
theorem t121_289 (C : xF) (s n : Nat) (z : xS) : x_to q_k121 C s (n + 1) 289 z = x_nx q_k121 C s n ((x_st (x_ifeq 309 292)) C z) := x_to_at f121_289 C s n z
set_option maxRecDepth 20000 in
theorem f121_292 : x_fetch q_k121 292 = x_lda 293 0 := rfl
theorem t121_292 (C : xF) (s n : Nat) (z : xS) : x_to q_k121 C s (n + 1) 292 z = x_nx q_k121 C s n ((x_lda 293 0) C z) := x_to_at f121_292 C s n z
set_option maxRecDepth 20000 in
theorem f121_293 : x_fetch q_k121 293 = x_gf 296 8 7 := rfl
theorem t121_293 (C : xF) (s n : Nat) (z : xS) : x_to q_k121 C s (n + 1) 293 z = x_nx q_k121 C s n ((x_gf 296 8 7) C z) := x_to_at f121_293 C s n z
set_option maxRecDepth 20000 in
theorem f121_296 : x_fetch q_k121 296 = x_ldi 297 2 := rfl
theorem t121_296 (C : xF) (s n : Nat) (z : xS) : x_to q_k121 C s (n + 1) 296 z = x_nx q_k121 C s n ((x_ldi 297 2) C z) := x_to_at f121_296 C s n z
set_option maxRecDepth 20000 in
theorem f121_297 : x_fetch q_k121 297 = x_ald 298 0 := rfl
theorem t121_297 (C : xF) (s n : Nat) (z : xS) : x_to q_k121 C s (n + 1) 297 z = x_nx q_k121 C s n ((x_ald 298 0) C z) := x_to_at f121_297 C s n z
set_option maxRecDepth 20000 in
theorem f121_298 : x_fetch q_k121 298 = x_lda 299 0 := rfl
theorem t121_298 (C : xF) (s n : Nat) (z : xS) : x_to q_k121 C s (n + 1) 298 z = x_nx q_k121 C s n ((x_lda 299 0) C z) := x_to_at f121_298 C s n z
set_option maxRecDepth 20000 in
theorem f121_299 : x_fetch q_k121 299 = x_gf 302 8 7 := rfl
theorem t121_299 (C : xF) (s n : Nat) (z : xS) : x_to q_k121 C s (n + 1) 299 z = x_nx q_k121 C s n ((x_gf 302 8 7) C z) := x_to_at f121_299 C s n z
set_option maxRecDepth 20000 in
theorem f121_302 : x_fetch q_k121 302 = x_ldi 304 4 := rfl
theorem t121_302 (C : xF) (s n : Nat) (z : xS) : x_to q_k121 C s (n + 1) 302 z = x_nx q_k121 C s n ((x_ldi 304 4) C z) := x_to_at f121_302 C s n z
set_option maxRecDepth 20000 in
theorem f121_304 : x_fetch q_k121 304 = x_ald 305 0 := rfl
theorem t121_304 (C : xF) (s n : Nat) (z : xS) : x_to q_k121 C s (n + 1) 304 z = x_nx q_k121 C s n ((x_ald 305 0) C z) := x_to_at f121_304 C s n z
set_option maxRecDepth 20000 in
theorem f121_305 : x_fetch q_k121 305 = x_st (x_bin 306 (fun a b => a ||| b)) := rfl
theorem t121_305 (C : xF) (s n : Nat) (z : xS) : x_to q_k121 C s (n + 1) 305 z = x_nx q_k121 C s n ((x_st (x_bin 306 (fun a b => a ||| b))) C z) := x_to_at f121_305 C s n z
set_option maxRecDepth 20000 in
theorem f121_306 : x_fetch q_k121 306 = x_st (x_goto 315) := rfl
theorem t121_306 (C : xF) (s n : Nat) (z : xS) : x_to q_k121 C s (n + 1) 306 z = x_nx q_k121 C s n ((x_st (x_goto 315)) C z) := x_to_at f121_306 C s n z
set_option maxRecDepth 20000 in
theorem f121_309 : x_fetch q_k121 309 = x_lda 310 0 := rfl
theorem t121_309 (C : xF) (s n : Nat) (z : xS) : x_to q_k121 C s (n + 1) 309 z = x_nx q_k121 C s n ((x_lda 310 0) C z) := x_to_at f121_309 C s n z
set_option maxRecDepth 20000 in
theorem f121_310 : x_fetch q_k121 310 = x_gf 313 8 7 := rfl
theorem t121_310 (C : xF) (s n : Nat) (z : xS) : x_to q_k121 C s (n + 1) 310 z = x_nx q_k121 C s n ((x_gf 313 8 7) C z) := x_to_at f121_310 C s n z
set_option maxRecDepth 20000 in
theorem f121_313 : x_fetch q_k121 313 = x_ldi 314 2 := rfl
theorem t121_313 (C : xF) (s n : Nat) (z : xS) : x_to q_k121 C s (n + 1) 313 z = x_nx q_k121 C s n ((x_ldi 314 2) C z) := x_to_at f121_313 C s n z
set_option maxRecDepth 20000 in
theorem f121_314 : x_fetch q_k121 314 = x_ald 315 0 := rfl
theorem t121_314 (C : xF) (s n : Nat) (z : xS) : x_to q_k121 C s (n + 1) 314 z = x_nx q_k121 C s n ((x_ald 315 0) C z) := x_to_at f121_314 C s n z
set_option maxRecDepth 20000 in
theorem f121_315 : x_fetch q_k121 315 = x_cv 318 107 4 8 := rfl
theorem t121_315 (C : xF) (s n : Nat) (z : xS) : x_to q_k121 C s (n + 1) 315 z = x_nx q_k121 C s n ((x_cv 318 107 4 8) C z) := x_to_at f121_315 C s n z
set_option maxRecDepth 20000 in
theorem f121_318 : x_fetch q_k121 318 = x_ri (.int) := rfl
theorem t121_318 (C : xF) (s n : Nat) (z : xS) : x_to q_k121 C s (n + 1) 318 z = x_nx q_k121 C s n ((x_ri (.int)) C z) := x_to_at f121_318 C s n z
def flS (Ds : List (List (Int × List Int) × Bool × Int × Int)) (U : List Int) (c r res : Int) (w' : Nat → xC) (m' : Nat → Int) (x' : Nat → List Int) : Prop := res = 0 ∧ m' 0 = c ∧ m' 1 = r ∧ RS w' m' x' Ds [] U
def dpS (Ds : List (List (Int × List Int) × Bool × Int × Int)) (rule i j : Int) : Int := if (rule = 0 ∨ rule = 3) ∧ (cl Ds i.toNat).2.2.1 < (cl Ds j.toNat).2.2.1 then (cl Ds j.toNat).2.2.1 else (cl Ds i.toNat).2.2.1
def ndS (Ds : List (List (Int × List Int) × Bool × Int × Int)) (rule i j : Int) : Int := if rule = 0 ∨ rule = 3 then orN (cl Ds i.toNat).2.2.2 (cl Ds j.toNat).2.2.2 else (cl Ds i.toNat).2.2.2
def okS (Ds : List (List (Int × List Int) × Bool × Int × Int)) (U : List Int) (rule i j : Int) (C' : List (Int × List Int)) (res : Int) (w' : Nat → xC) (m' : Nat → Int) (x' : Nat → List Int) : Prop := res = Ds.length ∧ m' 0 = 0 ∧ m' 1 = 0 ∧ RS w' m' x' (Ds ++ [(C', false, dpS Ds rule i j + 1, ndS Ds rule i j)]) [] U
section ST
variable {w : Nat → xC} {N : Nat} {m : Nat → Int} {x : Nat → List Int} {Ds : List (List (Int × List Int) × Bool × Int × Int)} {T U : List Int} {lv : xL} {rule i k j l p : Int}
theorem RS.rec (h : RS w m x Ds T U) (i0 : 0 ≤ i) (i1 : i < Ds.length) : gZ (x 31) i = (cl Ds i.toNat).2.2.1 ∧ gZ (x 32) i = (cl Ds i.toNat).2.2.2 ∧ 0 ≤ (cl Ds i.toNat).2.2.1 ∧ (cl Ds i.toNat).2.2.1 ≤ i ∧ 0 ≤ (cl Ds i.toNat).2.2.2 ∧ (cl Ds i.toNat).2.2.2 < 1073741824 := by
  obtain ⟨a1, a2, a3, a4, a5, a6, a7, a8⟩ := h.2.2.2.2.1 i.toNat (by omega)
  rw [show ((i.toNat : Nat) : Int) = i by omega] at a3 a4
  exact ⟨a3, a4, a5, by omega, a7, a8⟩
set_option maxHeartbeats 1000000 in
theorem A226 (d : Nat) (hN : 53 ≤ N) (h : RS w m x Ds [] U) (hl : lv7 lv rule i k j l p) (r0 : 0 ≤ rule) (r4 : rule ≤ 4) (i0 : 0 ≤ i) (i1 : i < Ds.length) (hj : rule = 0 ∨ rule = 3 → 0 ≤ j ∧ j < Ds.length) {C' : List (Int × List Int)} (hW : RW C' (x 38) (x 39) (x 41)) (g : gC C') (e8 : m 8 = C'.length) (e7 : m 7 = (flt C').length) (hlen : Ds.length < 30) (q0 : m 0 = 0) (q1 : m 1 = 0) :
    ∃ (w' : Nat → xC) (m' : Nat → Int) (x' : Nat → List Int), FrR w w' ∧ okS Ds U rule i j C' Ds.length w' m' x' ∧ Gx q_k121 (d + 6) 226 (lv, [], hp w N) (some (.int (iZ Ds.length)), hp w' N) := by
  have h' := h
  obtain ⟨h1, h2, h3, h4, h5, h6, h7, h8, h9⟩ := h'
  obtain ⟨ri1, ri2, ri3, ri4, ri5, ri6⟩ := h.rec i0 i1
  have hdp : 0 ≤ dpS Ds rule i j + 1 ∧ dpS Ds rule i j + 1 ≤ Ds.length := by
    unfold dpS
    split
    · next hc =>
      obtain ⟨j0, j1⟩ := hj hc.1
      have := h.rec j0 j1
      omega
    · omega
  have hnd : 0 ≤ ndS Ds rule i j ∧ ndS Ds rule i j < 1073741824 := by
    unfold ndS
    split
    · next hc =>
      obtain ⟨j0, j1⟩ := hj hc
      have := h.rec j0 j1
      exact orN_lt ri6 this.2.2.2.2.2
    · omega
  obtain ⟨w', x', o1, o2, o3, o4, o5, o6, o7, o8, o9, o10⟩ := m107 (C := C') (d + 5) hN h1 h2 hW e8 e7 g (Ds.length : Int) h3 (by omega) (by omega) false (dpS Ds rule i j + 1) (ndS Ds rule i j)
  have FR : FrR w w' := FrR.of o2 (by decide)
  refine ⟨w', st_ m 2 ((Ds.length : Int) + 1), x', FR, ⟨rfl, by rw [st_ne (by decide)]; exact q0, by rw [st_ne (by decide)]; exact q1, RS.add h hlen o1 o4 o5 o6 (fun a a0 => o7 a a0) (fun a a0 => o8 a a0) (fun a a0 => ?_) (st_at _ _ _) hdp.1 hdp.2 hnd.1 hnd.2 U h6 ?_ (by rw [st_ne (by decide)]; exact h8)⟩, ?_⟩
  · exact o9 a a0
  · rw [o3 35 (by decide)]
    exact h7
  · have hm := h1.1
    have h31 : w 31 = cI 0 (x 31) := (h1.2 31 (by decide) (by decide)).1
    have n31 : (x 31).length = 30 := (h1.2 31 (by decide) (by decide)).2
    have h32 : w 32 = cI 0 (x 32) := (h1.2 32 (by decide) (by decide)).1
    have n32 : (x 32).length = 30 := (h1.2 32 (by decide) (by decide)).2
    obtain ⟨hc, p0, p1, p2, p3, p4, p5, p6⟩ := hl
    have i30 : i < 30 := by omega
    obtain ⟨a, ha⟩ : ∃ a, a = (cl Ds i.toNat).2.2.1 := ⟨_, rfl⟩
    obtain ⟨b, hb⟩ : ∃ b, b = (cl Ds i.toNat).2.2.2 := ⟨_, rfl⟩
    rw [← ha] at ri1 ri3 ri4
    rw [← hb] at ri2 ri5 ri6
    have a30 : a < 30 := by omega
    have o10' : Xc (d + 6) 107 [.ref 30, .int (iZ 0), .int (iZ (dpS Ds rule i j + 1)), .int (iZ (ndS Ds rule i j))] (hp w N) (some (.int (iZ Ds.length)), hp w' N) := o10
    have two : rule = 0 ∨ rule = 3 → Gx q_k121 (d + 6) 226 (lv, [], hp w N) (some (.int (iZ Ds.length)), hp w' N) := fun hr => by
      obtain ⟨j0, j1⟩ := hj hr
      obtain ⟨rj1, rj2, rj3, rj4, rj5, rj6⟩ := h.rec j0 j1
      have j30 : j < 30 := by omega
      obtain ⟨c, hcc⟩ : ∃ c, c = (cl Ds j.toNat).2.2.1 := ⟨_, rfl⟩
      obtain ⟨e, he⟩ : ∃ e, e = (cl Ds j.toNat).2.2.2 := ⟨_, rfl⟩
      have hor := or_Z ri5 ri6 (by rw [he]; exact rj5 : 0 ≤ e) (by rw [he]; exact rj6)
      have en : ndS Ds rule i j = orN b e := by
        unfold ndS
        rw [if_pos hr, ← hb, ← he]
      rw [en] at o10'
      rw [← hcc] at rj1 rj3 rj4
      rw [← he] at rj2
      have c30 : c < 30 := by omega
      by_cases hd : a < c
      · have ed : dpS Ds rule i j = c := by
          unfold dpS
          rw [if_pos ⟨hr, by rw [← ha, ← hcc]; exact hd⟩, ← hcc]
        rw [ed] at o10'
        have hd' : ¬ c ≤ a := by omega
        refine Gx.fin 120 o10' (fun K mm => ?_)
        rcases hr with rfl | rfl
        · simp (disch := first | (refine c1_id ?_; assumption) | (refine c1_st rfl ?_; repeat (first | assumption | refine c1_st rfl ?_)) | omega) [nx_l, nx_r, nx_n, x_st, x_push, x_bin, x_div, x_un, x_dup, x_pop, x_dup2, x_goto, x_ifeq, x_ifne, x_iflt, x_ifge, x_ifgt, x_ifle, x_iceq, x_icne, x_iclt, x_icge, x_icgt, x_icle, x_ifnull, x_ifnonnull, x_ldi, x_lda, x_sti, x_sta, x_iinc, x_gf, x_pf, x_ald, x_ast, x_aln, x_len, x_cl_, x_cv, x_cs, x_rc, x_r0, x_isT, x_oi, x_rv, x_ri, x_ra, Value.category, t121_0, t121_1, t121_2, t121_5, t121_6, t121_7, t121_10, t121_11, t121_14, t121_16, t121_19, t121_20, t121_23, t121_24, t121_26, t121_28, t121_31, t121_32, t121_33, t121_34, t121_35, t121_37, t121_39, t121_41, t121_44, t121_47, t121_48, t121_51, t121_52, t121_54, t121_55, t121_58, t121_61, t121_62, t121_65, t121_66, t121_68, t121_70, t121_73, t121_75, t121_78, t121_79, t121_82, t121_85, t121_86, t121_88, t121_89, t121_90, t121_93, t121_95, t121_98, t121_99, t121_100, t121_102, t121_105, t121_106, t121_108, t121_111, t121_112, t121_113, t121_115, t121_118, t121_119, t121_121, t121_124, t121_125, t121_126, t121_128, t121_131, t121_132, t121_134, t121_137, t121_138, t121_141, t121_142, t121_143, t121_146, t121_147, t121_148, t121_151, t121_154, t121_155, t121_158, t121_160, t121_163, t121_164, t121_165, t121_166, t121_167, t121_169, t121_171, t121_173, t121_176, t121_178, t121_180, t121_183, t121_184, t121_185, t121_188, t121_190, t121_193, t121_194, t121_197, t121_200, t121_202, t121_204, t121_206, t121_209, t121_210, t121_211, t121_213, t121_216, t121_217, t121_218, t121_219, t121_222, t121_223, t121_226, t121_227, t121_230, t121_231, t121_232, t121_235, t121_236, t121_239, t121_240, t121_242, t121_244, t121_247, t121_248, t121_251, t121_253, t121_254, t121_255, t121_258, t121_259, t121_260, t121_263, t121_264, t121_267, t121_269, t121_270, t121_273, t121_274, t121_277, t121_278, t121_279, t121_281, t121_282, t121_283, t121_285, t121_286, t121_287, t121_289, t121_292, t121_293, t121_296, t121_297, t121_298, t121_299, t121_302, t121_304, t121_305, t121_306, t121_309, t121_310, t121_313, t121_314, t121_315, t121_318, lk_s, hp_get, hp_set, uH_at, uH_ne, uH_upd, uH_swap, iZ_add, iZ_sub, iZ_mul, iZ_neg, iZ_lt, iZ_le, iZ_eq, iZ_div, iZ_of, ix_Z, gZ_map, gZ_mapI, gZ_map', le_0, le_s, sZ_map, sZ_len, bZ_0, bZ_inj, bZ_t, bZ_f, nr_i, nr_0, nr_1, nr_b, ft_i, ft_b, ft_0, ft_1, zl_0, zl_1, zl_2, zl_3, zl_4, zl_8, zl_30, mF_len, mg_0, mg_1, mg_2, mg_3, mg_4, mg_5, mg_6, mg_7, mg_8, mg_9, mg_10, mg_11, mg_12, mg_13, mg_14, mg_15, mg_16, mg_17, mg_18, mg_19, mg_20, mg_21, mg_22, mg_23, mg_24, mg_25, mg_26, mg_27, mg_28, mg_29, mg_30, mg_31, mg_32, mg_33, mg_34, mg_35, mg_36, mg_37, mg_38, ms_0, ms_1, ms_2, ms_13, ms_14, ms_15, ms_16, ms_21, ms_22, ms_23, ms_24, ms_28, ms_36, ms_37, ms_38, st_at, st_ne, st_st, st_swap, p0, p1, p2, p4, hm, h31, h32, ri1, ri2, rj1, rj2, hd', hor, mm, -List.filter_filter, -List.getElem?_map, -List.getD_eq_getElem?_getD]
        · simp (disch := first | (refine c1_id ?_; assumption) | (refine c1_st rfl ?_; repeat (first | assumption | refine c1_st rfl ?_)) | omega) [nx_l, nx_r, nx_n, x_st, x_push, x_bin, x_div, x_un, x_dup, x_pop, x_dup2, x_goto, x_ifeq, x_ifne, x_iflt, x_ifge, x_ifgt, x_ifle, x_iceq, x_icne, x_iclt, x_icge, x_icgt, x_icle, x_ifnull, x_ifnonnull, x_ldi, x_lda, x_sti, x_sta, x_iinc, x_gf, x_pf, x_ald, x_ast, x_aln, x_len, x_cl_, x_cv, x_cs, x_rc, x_r0, x_isT, x_oi, x_rv, x_ri, x_ra, Value.category, t121_0, t121_1, t121_2, t121_5, t121_6, t121_7, t121_10, t121_11, t121_14, t121_16, t121_19, t121_20, t121_23, t121_24, t121_26, t121_28, t121_31, t121_32, t121_33, t121_34, t121_35, t121_37, t121_39, t121_41, t121_44, t121_47, t121_48, t121_51, t121_52, t121_54, t121_55, t121_58, t121_61, t121_62, t121_65, t121_66, t121_68, t121_70, t121_73, t121_75, t121_78, t121_79, t121_82, t121_85, t121_86, t121_88, t121_89, t121_90, t121_93, t121_95, t121_98, t121_99, t121_100, t121_102, t121_105, t121_106, t121_108, t121_111, t121_112, t121_113, t121_115, t121_118, t121_119, t121_121, t121_124, t121_125, t121_126, t121_128, t121_131, t121_132, t121_134, t121_137, t121_138, t121_141, t121_142, t121_143, t121_146, t121_147, t121_148, t121_151, t121_154, t121_155, t121_158, t121_160, t121_163, t121_164, t121_165, t121_166, t121_167, t121_169, t121_171, t121_173, t121_176, t121_178, t121_180, t121_183, t121_184, t121_185, t121_188, t121_190, t121_193, t121_194, t121_197, t121_200, t121_202, t121_204, t121_206, t121_209, t121_210, t121_211, t121_213, t121_216, t121_217, t121_218, t121_219, t121_222, t121_223, t121_226, t121_227, t121_230, t121_231, t121_232, t121_235, t121_236, t121_239, t121_240, t121_242, t121_244, t121_247, t121_248, t121_251, t121_253, t121_254, t121_255, t121_258, t121_259, t121_260, t121_263, t121_264, t121_267, t121_269, t121_270, t121_273, t121_274, t121_277, t121_278, t121_279, t121_281, t121_282, t121_283, t121_285, t121_286, t121_287, t121_289, t121_292, t121_293, t121_296, t121_297, t121_298, t121_299, t121_302, t121_304, t121_305, t121_306, t121_309, t121_310, t121_313, t121_314, t121_315, t121_318, lk_s, hp_get, hp_set, uH_at, uH_ne, uH_upd, uH_swap, iZ_add, iZ_sub, iZ_mul, iZ_neg, iZ_lt, iZ_le, iZ_eq, iZ_div, iZ_of, ix_Z, gZ_map, gZ_mapI, gZ_map', le_0, le_s, sZ_map, sZ_len, bZ_0, bZ_inj, bZ_t, bZ_f, nr_i, nr_0, nr_1, nr_b, ft_i, ft_b, ft_0, ft_1, zl_0, zl_1, zl_2, zl_3, zl_4, zl_8, zl_30, mF_len, mg_0, mg_1, mg_2, mg_3, mg_4, mg_5, mg_6, mg_7, mg_8, mg_9, mg_10, mg_11, mg_12, mg_13, mg_14, mg_15, mg_16, mg_17, mg_18, mg_19, mg_20, mg_21, mg_22, mg_23, mg_24, mg_25, mg_26, mg_27, mg_28, mg_29, mg_30, mg_31, mg_32, mg_33, mg_34, mg_35, mg_36, mg_37, mg_38, ms_0, ms_1, ms_2, ms_13, ms_14, ms_15, ms_16, ms_21, ms_22, ms_23, ms_24, ms_28, ms_36, ms_37, ms_38, st_at, st_ne, st_st, st_swap, p0, p1, p2, p4, hm, h31, h32, ri1, ri2, rj1, rj2, hd', hor, mm, -List.filter_filter, -List.getElem?_map, -List.getD_eq_getElem?_getD]
      · have ed : dpS Ds rule i j = a := by
          unfold dpS
          rw [if_neg (fun z => hd (by rw [ha, hcc]; exact z.2)), ← ha]
        rw [ed] at o10'
        have hd' : c ≤ a := by omega
        refine Gx.fin 120 o10' (fun K mm => ?_)
        rcases hr with rfl | rfl
        · simp (disch := first | (refine c1_id ?_; assumption) | (refine c1_st rfl ?_; repeat (first | assumption | refine c1_st rfl ?_)) | omega) [nx_l, nx_r, nx_n, x_st, x_push, x_bin, x_div, x_un, x_dup, x_pop, x_dup2, x_goto, x_ifeq, x_ifne, x_iflt, x_ifge, x_ifgt, x_ifle, x_iceq, x_icne, x_iclt, x_icge, x_icgt, x_icle, x_ifnull, x_ifnonnull, x_ldi, x_lda, x_sti, x_sta, x_iinc, x_gf, x_pf, x_ald, x_ast, x_aln, x_len, x_cl_, x_cv, x_cs, x_rc, x_r0, x_isT, x_oi, x_rv, x_ri, x_ra, Value.category, t121_0, t121_1, t121_2, t121_5, t121_6, t121_7, t121_10, t121_11, t121_14, t121_16, t121_19, t121_20, t121_23, t121_24, t121_26, t121_28, t121_31, t121_32, t121_33, t121_34, t121_35, t121_37, t121_39, t121_41, t121_44, t121_47, t121_48, t121_51, t121_52, t121_54, t121_55, t121_58, t121_61, t121_62, t121_65, t121_66, t121_68, t121_70, t121_73, t121_75, t121_78, t121_79, t121_82, t121_85, t121_86, t121_88, t121_89, t121_90, t121_93, t121_95, t121_98, t121_99, t121_100, t121_102, t121_105, t121_106, t121_108, t121_111, t121_112, t121_113, t121_115, t121_118, t121_119, t121_121, t121_124, t121_125, t121_126, t121_128, t121_131, t121_132, t121_134, t121_137, t121_138, t121_141, t121_142, t121_143, t121_146, t121_147, t121_148, t121_151, t121_154, t121_155, t121_158, t121_160, t121_163, t121_164, t121_165, t121_166, t121_167, t121_169, t121_171, t121_173, t121_176, t121_178, t121_180, t121_183, t121_184, t121_185, t121_188, t121_190, t121_193, t121_194, t121_197, t121_200, t121_202, t121_204, t121_206, t121_209, t121_210, t121_211, t121_213, t121_216, t121_217, t121_218, t121_219, t121_222, t121_223, t121_226, t121_227, t121_230, t121_231, t121_232, t121_235, t121_236, t121_239, t121_240, t121_242, t121_244, t121_247, t121_248, t121_251, t121_253, t121_254, t121_255, t121_258, t121_259, t121_260, t121_263, t121_264, t121_267, t121_269, t121_270, t121_273, t121_274, t121_277, t121_278, t121_279, t121_281, t121_282, t121_283, t121_285, t121_286, t121_287, t121_289, t121_292, t121_293, t121_296, t121_297, t121_298, t121_299, t121_302, t121_304, t121_305, t121_306, t121_309, t121_310, t121_313, t121_314, t121_315, t121_318, lk_s, hp_get, hp_set, uH_at, uH_ne, uH_upd, uH_swap, iZ_add, iZ_sub, iZ_mul, iZ_neg, iZ_lt, iZ_le, iZ_eq, iZ_div, iZ_of, ix_Z, gZ_map, gZ_mapI, gZ_map', le_0, le_s, sZ_map, sZ_len, bZ_0, bZ_inj, bZ_t, bZ_f, nr_i, nr_0, nr_1, nr_b, ft_i, ft_b, ft_0, ft_1, zl_0, zl_1, zl_2, zl_3, zl_4, zl_8, zl_30, mF_len, mg_0, mg_1, mg_2, mg_3, mg_4, mg_5, mg_6, mg_7, mg_8, mg_9, mg_10, mg_11, mg_12, mg_13, mg_14, mg_15, mg_16, mg_17, mg_18, mg_19, mg_20, mg_21, mg_22, mg_23, mg_24, mg_25, mg_26, mg_27, mg_28, mg_29, mg_30, mg_31, mg_32, mg_33, mg_34, mg_35, mg_36, mg_37, mg_38, ms_0, ms_1, ms_2, ms_13, ms_14, ms_15, ms_16, ms_21, ms_22, ms_23, ms_24, ms_28, ms_36, ms_37, ms_38, st_at, st_ne, st_st, st_swap, p0, p1, p2, p4, hm, h31, h32, ri1, ri2, rj1, rj2, hd', hor, mm, -List.filter_filter, -List.getElem?_map, -List.getD_eq_getElem?_getD]
        · simp (disch := first | (refine c1_id ?_; assumption) | (refine c1_st rfl ?_; repeat (first | assumption | refine c1_st rfl ?_)) | omega) [nx_l, nx_r, nx_n, x_st, x_push, x_bin, x_div, x_un, x_dup, x_pop, x_dup2, x_goto, x_ifeq, x_ifne, x_iflt, x_ifge, x_ifgt, x_ifle, x_iceq, x_icne, x_iclt, x_icge, x_icgt, x_icle, x_ifnull, x_ifnonnull, x_ldi, x_lda, x_sti, x_sta, x_iinc, x_gf, x_pf, x_ald, x_ast, x_aln, x_len, x_cl_, x_cv, x_cs, x_rc, x_r0, x_isT, x_oi, x_rv, x_ri, x_ra, Value.category, t121_0, t121_1, t121_2, t121_5, t121_6, t121_7, t121_10, t121_11, t121_14, t121_16, t121_19, t121_20, t121_23, t121_24, t121_26, t121_28, t121_31, t121_32, t121_33, t121_34, t121_35, t121_37, t121_39, t121_41, t121_44, t121_47, t121_48, t121_51, t121_52, t121_54, t121_55, t121_58, t121_61, t121_62, t121_65, t121_66, t121_68, t121_70, t121_73, t121_75, t121_78, t121_79, t121_82, t121_85, t121_86, t121_88, t121_89, t121_90, t121_93, t121_95, t121_98, t121_99, t121_100, t121_102, t121_105, t121_106, t121_108, t121_111, t121_112, t121_113, t121_115, t121_118, t121_119, t121_121, t121_124, t121_125, t121_126, t121_128, t121_131, t121_132, t121_134, t121_137, t121_138, t121_141, t121_142, t121_143, t121_146, t121_147, t121_148, t121_151, t121_154, t121_155, t121_158, t121_160, t121_163, t121_164, t121_165, t121_166, t121_167, t121_169, t121_171, t121_173, t121_176, t121_178, t121_180, t121_183, t121_184, t121_185, t121_188, t121_190, t121_193, t121_194, t121_197, t121_200, t121_202, t121_204, t121_206, t121_209, t121_210, t121_211, t121_213, t121_216, t121_217, t121_218, t121_219, t121_222, t121_223, t121_226, t121_227, t121_230, t121_231, t121_232, t121_235, t121_236, t121_239, t121_240, t121_242, t121_244, t121_247, t121_248, t121_251, t121_253, t121_254, t121_255, t121_258, t121_259, t121_260, t121_263, t121_264, t121_267, t121_269, t121_270, t121_273, t121_274, t121_277, t121_278, t121_279, t121_281, t121_282, t121_283, t121_285, t121_286, t121_287, t121_289, t121_292, t121_293, t121_296, t121_297, t121_298, t121_299, t121_302, t121_304, t121_305, t121_306, t121_309, t121_310, t121_313, t121_314, t121_315, t121_318, lk_s, hp_get, hp_set, uH_at, uH_ne, uH_upd, uH_swap, iZ_add, iZ_sub, iZ_mul, iZ_neg, iZ_lt, iZ_le, iZ_eq, iZ_div, iZ_of, ix_Z, gZ_map, gZ_mapI, gZ_map', le_0, le_s, sZ_map, sZ_len, bZ_0, bZ_inj, bZ_t, bZ_f, nr_i, nr_0, nr_1, nr_b, ft_i, ft_b, ft_0, ft_1, zl_0, zl_1, zl_2, zl_3, zl_4, zl_8, zl_30, mF_len, mg_0, mg_1, mg_2, mg_3, mg_4, mg_5, mg_6, mg_7, mg_8, mg_9, mg_10, mg_11, mg_12, mg_13, mg_14, mg_15, mg_16, mg_17, mg_18, mg_19, mg_20, mg_21, mg_22, mg_23, mg_24, mg_25, mg_26, mg_27, mg_28, mg_29, mg_30, mg_31, mg_32, mg_33, mg_34, mg_35, mg_36, mg_37, mg_38, ms_0, ms_1, ms_2, ms_13, ms_14, ms_15, ms_16, ms_21, ms_22, ms_23, ms_24, ms_28, ms_36, ms_37, ms_38, st_at, st_ne, st_st, st_swap, p0, p1, p2, p4, hm, h31, h32, ri1, ri2, rj1, rj2, hd', hor, mm, -List.filter_filter, -List.getElem?_map, -List.getD_eq_getElem?_getD]
    by_cases hr : rule = 0 ∨ rule = 3
    · exact two hr
    · have ed : dpS Ds rule i j = a := by
        unfold dpS
        rw [if_neg (fun z => hr z.1), ← ha]
      have en : ndS Ds rule i j = b := by
        unfold ndS
        rw [if_neg hr, ← hb]
      rw [ed, en] at o10'
      refine Gx.fin 120 o10' (fun K mm => ?_)
      have hr3 : rule = 1 ∨ rule = 2 ∨ rule = 4 := by omega
      rcases hr3 with rfl | rfl | rfl
      · simp (disch := first | (refine c1_id ?_; assumption) | (refine c1_st rfl ?_; repeat (first | assumption | refine c1_st rfl ?_)) | omega) [nx_l, nx_r, nx_n, x_st, x_push, x_bin, x_div, x_un, x_dup, x_pop, x_dup2, x_goto, x_ifeq, x_ifne, x_iflt, x_ifge, x_ifgt, x_ifle, x_iceq, x_icne, x_iclt, x_icge, x_icgt, x_icle, x_ifnull, x_ifnonnull, x_ldi, x_lda, x_sti, x_sta, x_iinc, x_gf, x_pf, x_ald, x_ast, x_aln, x_len, x_cl_, x_cv, x_cs, x_rc, x_r0, x_isT, x_oi, x_rv, x_ri, x_ra, Value.category, t121_0, t121_1, t121_2, t121_5, t121_6, t121_7, t121_10, t121_11, t121_14, t121_16, t121_19, t121_20, t121_23, t121_24, t121_26, t121_28, t121_31, t121_32, t121_33, t121_34, t121_35, t121_37, t121_39, t121_41, t121_44, t121_47, t121_48, t121_51, t121_52, t121_54, t121_55, t121_58, t121_61, t121_62, t121_65, t121_66, t121_68, t121_70, t121_73, t121_75, t121_78, t121_79, t121_82, t121_85, t121_86, t121_88, t121_89, t121_90, t121_93, t121_95, t121_98, t121_99, t121_100, t121_102, t121_105, t121_106, t121_108, t121_111, t121_112, t121_113, t121_115, t121_118, t121_119, t121_121, t121_124, t121_125, t121_126, t121_128, t121_131, t121_132, t121_134, t121_137, t121_138, t121_141, t121_142, t121_143, t121_146, t121_147, t121_148, t121_151, t121_154, t121_155, t121_158, t121_160, t121_163, t121_164, t121_165, t121_166, t121_167, t121_169, t121_171, t121_173, t121_176, t121_178, t121_180, t121_183, t121_184, t121_185, t121_188, t121_190, t121_193, t121_194, t121_197, t121_200, t121_202, t121_204, t121_206, t121_209, t121_210, t121_211, t121_213, t121_216, t121_217, t121_218, t121_219, t121_222, t121_223, t121_226, t121_227, t121_230, t121_231, t121_232, t121_235, t121_236, t121_239, t121_240, t121_242, t121_244, t121_247, t121_248, t121_251, t121_253, t121_254, t121_255, t121_258, t121_259, t121_260, t121_263, t121_264, t121_267, t121_269, t121_270, t121_273, t121_274, t121_277, t121_278, t121_279, t121_281, t121_282, t121_283, t121_285, t121_286, t121_287, t121_289, t121_292, t121_293, t121_296, t121_297, t121_298, t121_299, t121_302, t121_304, t121_305, t121_306, t121_309, t121_310, t121_313, t121_314, t121_315, t121_318, lk_s, hp_get, hp_set, uH_at, uH_ne, uH_upd, uH_swap, iZ_add, iZ_sub, iZ_mul, iZ_neg, iZ_lt, iZ_le, iZ_eq, iZ_div, iZ_of, ix_Z, gZ_map, gZ_mapI, gZ_map', le_0, le_s, sZ_map, sZ_len, bZ_0, bZ_inj, bZ_t, bZ_f, nr_i, nr_0, nr_1, nr_b, ft_i, ft_b, ft_0, ft_1, zl_0, zl_1, zl_2, zl_3, zl_4, zl_8, zl_30, mF_len, mg_0, mg_1, mg_2, mg_3, mg_4, mg_5, mg_6, mg_7, mg_8, mg_9, mg_10, mg_11, mg_12, mg_13, mg_14, mg_15, mg_16, mg_17, mg_18, mg_19, mg_20, mg_21, mg_22, mg_23, mg_24, mg_25, mg_26, mg_27, mg_28, mg_29, mg_30, mg_31, mg_32, mg_33, mg_34, mg_35, mg_36, mg_37, mg_38, ms_0, ms_1, ms_2, ms_13, ms_14, ms_15, ms_16, ms_21, ms_22, ms_23, ms_24, ms_28, ms_36, ms_37, ms_38, st_at, st_ne, st_st, st_swap, p0, p1, p2, p4, hm, h31, h32, ri1, ri2, mm, -List.filter_filter, -List.getElem?_map, -List.getD_eq_getElem?_getD]
      · simp (disch := first | (refine c1_id ?_; assumption) | (refine c1_st rfl ?_; repeat (first | assumption | refine c1_st rfl ?_)) | omega) [nx_l, nx_r, nx_n, x_st, x_push, x_bin, x_div, x_un, x_dup, x_pop, x_dup2, x_goto, x_ifeq, x_ifne, x_iflt, x_ifge, x_ifgt, x_ifle, x_iceq, x_icne, x_iclt, x_icge, x_icgt, x_icle, x_ifnull, x_ifnonnull, x_ldi, x_lda, x_sti, x_sta, x_iinc, x_gf, x_pf, x_ald, x_ast, x_aln, x_len, x_cl_, x_cv, x_cs, x_rc, x_r0, x_isT, x_oi, x_rv, x_ri, x_ra, Value.category, t121_0, t121_1, t121_2, t121_5, t121_6, t121_7, t121_10, t121_11, t121_14, t121_16, t121_19, t121_20, t121_23, t121_24, t121_26, t121_28, t121_31, t121_32, t121_33, t121_34, t121_35, t121_37, t121_39, t121_41, t121_44, t121_47, t121_48, t121_51, t121_52, t121_54, t121_55, t121_58, t121_61, t121_62, t121_65, t121_66, t121_68, t121_70, t121_73, t121_75, t121_78, t121_79, t121_82, t121_85, t121_86, t121_88, t121_89, t121_90, t121_93, t121_95, t121_98, t121_99, t121_100, t121_102, t121_105, t121_106, t121_108, t121_111, t121_112, t121_113, t121_115, t121_118, t121_119, t121_121, t121_124, t121_125, t121_126, t121_128, t121_131, t121_132, t121_134, t121_137, t121_138, t121_141, t121_142, t121_143, t121_146, t121_147, t121_148, t121_151, t121_154, t121_155, t121_158, t121_160, t121_163, t121_164, t121_165, t121_166, t121_167, t121_169, t121_171, t121_173, t121_176, t121_178, t121_180, t121_183, t121_184, t121_185, t121_188, t121_190, t121_193, t121_194, t121_197, t121_200, t121_202, t121_204, t121_206, t121_209, t121_210, t121_211, t121_213, t121_216, t121_217, t121_218, t121_219, t121_222, t121_223, t121_226, t121_227, t121_230, t121_231, t121_232, t121_235, t121_236, t121_239, t121_240, t121_242, t121_244, t121_247, t121_248, t121_251, t121_253, t121_254, t121_255, t121_258, t121_259, t121_260, t121_263, t121_264, t121_267, t121_269, t121_270, t121_273, t121_274, t121_277, t121_278, t121_279, t121_281, t121_282, t121_283, t121_285, t121_286, t121_287, t121_289, t121_292, t121_293, t121_296, t121_297, t121_298, t121_299, t121_302, t121_304, t121_305, t121_306, t121_309, t121_310, t121_313, t121_314, t121_315, t121_318, lk_s, hp_get, hp_set, uH_at, uH_ne, uH_upd, uH_swap, iZ_add, iZ_sub, iZ_mul, iZ_neg, iZ_lt, iZ_le, iZ_eq, iZ_div, iZ_of, ix_Z, gZ_map, gZ_mapI, gZ_map', le_0, le_s, sZ_map, sZ_len, bZ_0, bZ_inj, bZ_t, bZ_f, nr_i, nr_0, nr_1, nr_b, ft_i, ft_b, ft_0, ft_1, zl_0, zl_1, zl_2, zl_3, zl_4, zl_8, zl_30, mF_len, mg_0, mg_1, mg_2, mg_3, mg_4, mg_5, mg_6, mg_7, mg_8, mg_9, mg_10, mg_11, mg_12, mg_13, mg_14, mg_15, mg_16, mg_17, mg_18, mg_19, mg_20, mg_21, mg_22, mg_23, mg_24, mg_25, mg_26, mg_27, mg_28, mg_29, mg_30, mg_31, mg_32, mg_33, mg_34, mg_35, mg_36, mg_37, mg_38, ms_0, ms_1, ms_2, ms_13, ms_14, ms_15, ms_16, ms_21, ms_22, ms_23, ms_24, ms_28, ms_36, ms_37, ms_38, st_at, st_ne, st_st, st_swap, p0, p1, p2, p4, hm, h31, h32, ri1, ri2, mm, -List.filter_filter, -List.getElem?_map, -List.getD_eq_getElem?_getD]
      · simp (disch := first | (refine c1_id ?_; assumption) | (refine c1_st rfl ?_; repeat (first | assumption | refine c1_st rfl ?_)) | omega) [nx_l, nx_r, nx_n, x_st, x_push, x_bin, x_div, x_un, x_dup, x_pop, x_dup2, x_goto, x_ifeq, x_ifne, x_iflt, x_ifge, x_ifgt, x_ifle, x_iceq, x_icne, x_iclt, x_icge, x_icgt, x_icle, x_ifnull, x_ifnonnull, x_ldi, x_lda, x_sti, x_sta, x_iinc, x_gf, x_pf, x_ald, x_ast, x_aln, x_len, x_cl_, x_cv, x_cs, x_rc, x_r0, x_isT, x_oi, x_rv, x_ri, x_ra, Value.category, t121_0, t121_1, t121_2, t121_5, t121_6, t121_7, t121_10, t121_11, t121_14, t121_16, t121_19, t121_20, t121_23, t121_24, t121_26, t121_28, t121_31, t121_32, t121_33, t121_34, t121_35, t121_37, t121_39, t121_41, t121_44, t121_47, t121_48, t121_51, t121_52, t121_54, t121_55, t121_58, t121_61, t121_62, t121_65, t121_66, t121_68, t121_70, t121_73, t121_75, t121_78, t121_79, t121_82, t121_85, t121_86, t121_88, t121_89, t121_90, t121_93, t121_95, t121_98, t121_99, t121_100, t121_102, t121_105, t121_106, t121_108, t121_111, t121_112, t121_113, t121_115, t121_118, t121_119, t121_121, t121_124, t121_125, t121_126, t121_128, t121_131, t121_132, t121_134, t121_137, t121_138, t121_141, t121_142, t121_143, t121_146, t121_147, t121_148, t121_151, t121_154, t121_155, t121_158, t121_160, t121_163, t121_164, t121_165, t121_166, t121_167, t121_169, t121_171, t121_173, t121_176, t121_178, t121_180, t121_183, t121_184, t121_185, t121_188, t121_190, t121_193, t121_194, t121_197, t121_200, t121_202, t121_204, t121_206, t121_209, t121_210, t121_211, t121_213, t121_216, t121_217, t121_218, t121_219, t121_222, t121_223, t121_226, t121_227, t121_230, t121_231, t121_232, t121_235, t121_236, t121_239, t121_240, t121_242, t121_244, t121_247, t121_248, t121_251, t121_253, t121_254, t121_255, t121_258, t121_259, t121_260, t121_263, t121_264, t121_267, t121_269, t121_270, t121_273, t121_274, t121_277, t121_278, t121_279, t121_281, t121_282, t121_283, t121_285, t121_286, t121_287, t121_289, t121_292, t121_293, t121_296, t121_297, t121_298, t121_299, t121_302, t121_304, t121_305, t121_306, t121_309, t121_310, t121_313, t121_314, t121_315, t121_318, lk_s, hp_get, hp_set, uH_at, uH_ne, uH_upd, uH_swap, iZ_add, iZ_sub, iZ_mul, iZ_neg, iZ_lt, iZ_le, iZ_eq, iZ_div, iZ_of, ix_Z, gZ_map, gZ_mapI, gZ_map', le_0, le_s, sZ_map, sZ_len, bZ_0, bZ_inj, bZ_t, bZ_f, nr_i, nr_0, nr_1, nr_b, ft_i, ft_b, ft_0, ft_1, zl_0, zl_1, zl_2, zl_3, zl_4, zl_8, zl_30, mF_len, mg_0, mg_1, mg_2, mg_3, mg_4, mg_5, mg_6, mg_7, mg_8, mg_9, mg_10, mg_11, mg_12, mg_13, mg_14, mg_15, mg_16, mg_17, mg_18, mg_19, mg_20, mg_21, mg_22, mg_23, mg_24, mg_25, mg_26, mg_27, mg_28, mg_29, mg_30, mg_31, mg_32, mg_33, mg_34, mg_35, mg_36, mg_37, mg_38, ms_0, ms_1, ms_2, ms_13, ms_14, ms_15, ms_16, ms_21, ms_22, ms_23, ms_24, ms_28, ms_36, ms_37, ms_38, st_at, st_ne, st_st, st_swap, p0, p1, p2, p4, hm, h31, h32, ri1, ri2, mm, -List.filter_filter, -List.getElem?_map, -List.getD_eq_getElem?_getD]
/-- the call fails: from any place where the answer of 93 is what is left -/
theorem F93 (d : Nat) (hN : 53 ≤ N) (h : RS w m x Ds [] U) (c r : Int) : ∃ (w' : Nat → xC) (m' : Nat → Int), FrR w w' ∧ flS Ds U c r 0 w' m' x ∧ Xc (d + 6) 93 [.ref 30, .int (iZ c), .int (iZ r)] (hp w N) (some (.int (iZ 0)), hp w' N) := by
  have h' := h
  obtain ⟨h1, h2, h3, h4, h5, h6, h7, h8, h9, h10, h11⟩ := h'
  have X := m93 (w := w) (m := m) (d + 5) hN h1.1 c r
  have R4 := h1.fld (st_ (st_ m 0 c) 1 r)
  exact ⟨_, _, (FrR.rf w).up (by decide) (by decide), ⟨rfl, by rw [st_ne (by decide), st_at], st_at _ _ _, h.mv R4 h2 (fun _ _ _ => rfl) (by rw [st_ne (by decide), st_ne (by decide)]) (by rw [st_ne (by decide), st_ne (by decide)]; exact h8) h9 h10 h11⟩, X⟩
theorem e121_204 (d : Nat) (hN : 53 ≤ N) (hm : w 27 = .inr (8, mF m)) (hl : lv7 lv rule i k j l p) (rr : Int) (r0 : rr < 0) (r1 : -10 ≤ rr) (l11 : x_lk lv 11 = some (.int (iZ rr))) {w' : Nat → xC} (X : Xc (d + 6) 93 [.ref 30, .int (iZ 4), .int (iZ rr)] (hp w N) (some (.int (iZ 0)), hp w' N)) : Gx q_k121 (d + 6) 204 (lv, [], hp w N) (some (.int (iZ 0)), hp w' N) := by
  obtain ⟨hc, p0, p1, p2, p3, p4, p5, p6⟩ := hl
  refine Gx.fin 40 X (fun K mm => ?_)
  have b1 : ¬ 0 ≤ rr := by omega
  simp (disch := first | (refine c1_id ?_; assumption) | (refine c1_st rfl ?_; repeat (first | assumption | refine c1_st rfl ?_)) | omega) [nx_l, nx_r, nx_n, x_st, x_push, x_bin, x_div, x_un, x_dup, x_pop, x_dup2, x_goto, x_ifeq, x_ifne, x_iflt, x_ifge, x_ifgt, x_ifle, x_iceq, x_icne, x_iclt, x_icge, x_icgt, x_icle, x_ifnull, x_ifnonnull, x_ldi, x_lda, x_sti, x_sta, x_iinc, x_gf, x_pf, x_ald, x_ast, x_aln, x_len, x_cl_, x_cv, x_cs, x_rc, x_r0, x_isT, x_oi, x_rv, x_ri, x_ra, Value.category, t121_0, t121_1, t121_2, t121_5, t121_6, t121_7, t121_10, t121_11, t121_14, t121_16, t121_19, t121_20, t121_23, t121_24, t121_26, t121_28, t121_31, t121_32, t121_33, t121_34, t121_35, t121_37, t121_39, t121_41, t121_44, t121_47, t121_48, t121_51, t121_52, t121_54, t121_55, t121_58, t121_61, t121_62, t121_65, t121_66, t121_68, t121_70, t121_73, t121_75, t121_78, t121_79, t121_82, t121_85, t121_86, t121_88, t121_89, t121_90, t121_93, t121_95, t121_98, t121_99, t121_100, t121_102, t121_105, t121_106, t121_108, t121_111, t121_112, t121_113, t121_115, t121_118, t121_119, t121_121, t121_124, t121_125, t121_126, t121_128, t121_131, t121_132, t121_134, t121_137, t121_138, t121_141, t121_142, t121_143, t121_146, t121_147, t121_148, t121_151, t121_154, t121_155, t121_158, t121_160, t121_163, t121_164, t121_165, t121_166, t121_167, t121_169, t121_171, t121_173, t121_176, t121_178, t121_180, t121_183, t121_184, t121_185, t121_188, t121_190, t121_193, t121_194, t121_197, t121_200, t121_202, t121_204, t121_206, t121_209, t121_210, t121_211, t121_213, t121_216, t121_217, t121_218, t121_219, t121_222, t121_223, t121_226, t121_227, t121_230, t121_231, t121_232, t121_235, t121_236, t121_239, t121_240, t121_242, t121_244, t121_247, t121_248, t121_251, t121_253, t121_254, t121_255, t121_258, t121_259, t121_260, t121_263, t121_264, t121_267, t121_269, t121_270, t121_273, t121_274, t121_277, t121_278, t121_279, t121_281, t121_282, t121_283, t121_285, t121_286, t121_287, t121_289, t121_292, t121_293, t121_296, t121_297, t121_298, t121_299, t121_302, t121_304, t121_305, t121_306, t121_309, t121_310, t121_313, t121_314, t121_315, t121_318, lk_s, hp_get, hp_set, uH_at, uH_ne, uH_upd, uH_swap, iZ_add, iZ_sub, iZ_mul, iZ_neg, iZ_lt, iZ_le, iZ_eq, iZ_div, iZ_of, ix_Z, gZ_map, gZ_mapI, gZ_map', le_0, le_s, sZ_map, sZ_len, bZ_0, bZ_inj, bZ_t, bZ_f, nr_i, nr_0, nr_1, nr_b, ft_i, ft_b, ft_0, ft_1, zl_0, zl_1, zl_2, zl_3, zl_4, zl_8, zl_30, mF_len, mg_0, mg_1, mg_2, mg_3, mg_4, mg_5, mg_6, mg_7, mg_8, mg_9, mg_10, mg_11, mg_12, mg_13, mg_14, mg_15, mg_16, mg_17, mg_18, mg_19, mg_20, mg_21, mg_22, mg_23, mg_24, mg_25, mg_26, mg_27, mg_28, mg_29, mg_30, mg_31, mg_32, mg_33, mg_34, mg_35, mg_36, mg_37, mg_38, ms_0, ms_1, ms_2, ms_13, ms_14, ms_15, ms_16, ms_21, ms_22, ms_23, ms_24, ms_28, ms_36, ms_37, ms_38, st_at, st_ne, st_st, st_swap, p0, p1, l11, hm, b1, mm, -List.filter_filter, -List.getElem?_map, -List.getD_eq_getElem?_getD]
theorem e121_178f (d : Nat) (hN : 53 ≤ N) (hm : w 27 = .inr (8, mF m)) (hl : lv7 lv rule i k j l p) (rr : Int) (r0 : rr < 0) (r1 : -10 ≤ rr) (l11 : x_lk lv 11 = some (.int (iZ rr))) : ∀ res, Gx q_k121 (d + 6) 204 (lv, [], hp w N) res → Gx q_k121 (d + 6) 178 (lv, [], hp w N) res := fun res hg => by
  obtain ⟨hc, p0, p1, p2, p3, p4, p5, p6⟩ := hl
  refine Gx.run 40 Cs.tt (fun K _ => ?_) hg
  have b1 : ¬ rr = 0 := by omega
  simp (disch := first | (refine c1_id ?_; assumption) | (refine c1_st rfl ?_; repeat (first | assumption | refine c1_st rfl ?_)) | omega) [nx_l, nx_r, nx_n, x_st, x_push, x_bin, x_div, x_un, x_dup, x_pop, x_dup2, x_goto, x_ifeq, x_ifne, x_iflt, x_ifge, x_ifgt, x_ifle, x_iceq, x_icne, x_iclt, x_icge, x_icgt, x_icle, x_ifnull, x_ifnonnull, x_ldi, x_lda, x_sti, x_sta, x_iinc, x_gf, x_pf, x_ald, x_ast, x_aln, x_len, x_cl_, x_cv, x_cs, x_rc, x_r0, x_isT, x_oi, x_rv, x_ri, x_ra, Value.category, t121_0, t121_1, t121_2, t121_5, t121_6, t121_7, t121_10, t121_11, t121_14, t121_16, t121_19, t121_20, t121_23, t121_24, t121_26, t121_28, t121_31, t121_32, t121_33, t121_34, t121_35, t121_37, t121_39, t121_41, t121_44, t121_47, t121_48, t121_51, t121_52, t121_54, t121_55, t121_58, t121_61, t121_62, t121_65, t121_66, t121_68, t121_70, t121_73, t121_75, t121_78, t121_79, t121_82, t121_85, t121_86, t121_88, t121_89, t121_90, t121_93, t121_95, t121_98, t121_99, t121_100, t121_102, t121_105, t121_106, t121_108, t121_111, t121_112, t121_113, t121_115, t121_118, t121_119, t121_121, t121_124, t121_125, t121_126, t121_128, t121_131, t121_132, t121_134, t121_137, t121_138, t121_141, t121_142, t121_143, t121_146, t121_147, t121_148, t121_151, t121_154, t121_155, t121_158, t121_160, t121_163, t121_164, t121_165, t121_166, t121_167, t121_169, t121_171, t121_173, t121_176, t121_178, t121_180, t121_183, t121_184, t121_185, t121_188, t121_190, t121_193, t121_194, t121_197, t121_200, t121_202, t121_204, t121_206, t121_209, t121_210, t121_211, t121_213, t121_216, t121_217, t121_218, t121_219, t121_222, t121_223, t121_226, t121_227, t121_230, t121_231, t121_232, t121_235, t121_236, t121_239, t121_240, t121_242, t121_244, t121_247, t121_248, t121_251, t121_253, t121_254, t121_255, t121_258, t121_259, t121_260, t121_263, t121_264, t121_267, t121_269, t121_270, t121_273, t121_274, t121_277, t121_278, t121_279, t121_281, t121_282, t121_283, t121_285, t121_286, t121_287, t121_289, t121_292, t121_293, t121_296, t121_297, t121_298, t121_299, t121_302, t121_304, t121_305, t121_306, t121_309, t121_310, t121_313, t121_314, t121_315, t121_318, lk_s, hp_get, hp_set, uH_at, uH_ne, uH_upd, uH_swap, iZ_add, iZ_sub, iZ_mul, iZ_neg, iZ_lt, iZ_le, iZ_eq, iZ_div, iZ_of, ix_Z, gZ_map, gZ_mapI, gZ_map', le_0, le_s, sZ_map, sZ_len, bZ_0, bZ_inj, bZ_t, bZ_f, nr_i, nr_0, nr_1, nr_b, ft_i, ft_b, ft_0, ft_1, zl_0, zl_1, zl_2, zl_3, zl_4, zl_8, zl_30, mF_len, mg_0, mg_1, mg_2, mg_3, mg_4, mg_5, mg_6, mg_7, mg_8, mg_9, mg_10, mg_11, mg_12, mg_13, mg_14, mg_15, mg_16, mg_17, mg_18, mg_19, mg_20, mg_21, mg_22, mg_23, mg_24, mg_25, mg_26, mg_27, mg_28, mg_29, mg_30, mg_31, mg_32, mg_33, mg_34, mg_35, mg_36, mg_37, mg_38, ms_0, ms_1, ms_2, ms_13, ms_14, ms_15, ms_16, ms_21, ms_22, ms_23, ms_24, ms_28, ms_36, ms_37, ms_38, st_at, st_ne, st_st, st_swap, p0, p1, l11, hm, b1, -List.filter_filter, -List.getElem?_map, -List.getD_eq_getElem?_getD]
end ST
