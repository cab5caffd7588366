/-! the reference: unify, its pieces -/
theorem f113_0 : x_fetch q_k113 0 = x_st (x_push 1 (.int (1))) := rfl
theorem t113_0 (C : xF) (s n : Nat) (z : xS) : x_to q_k113 C s (n + 1) 0 z = x_nx q_k113 C s n ((x_st (x_push 1 (.int (1)))) C z) := x_to_at f113_0 C s n z
theorem f113_1 : x_fetch q_k113 1 = x_sti 2 3 := rfl
theorem t113_1 (C : xF) (s n : Nat) (z : xS) : x_to q_k113 C s (n + 1) 1 z = x_nx q_k113 C s n ((x_sti 2 3) C z) := x_to_at f113_1 C s n z
theorem f113_2 : x_fetch q_k113 2 = x_lda 3 0 := rfl
theorem t113_2 (C : xF) (s n : Nat) (z : xS) : x_to q_k113 C s (n + 1) 2 z = x_nx q_k113 C s n ((x_lda 3 0) C z) := x_to_at f113_2 C s n z
theorem f113_3 : x_fetch q_k113 3 = x_gf 6 8 31 := rfl
theorem t113_3 (C : xF) (s n : Nat) (z : xS) : x_to q_k113 C s (n + 1) 3 z = x_nx q_k113 C s n ((x_gf 6 8 31) C z) := x_to_at f113_3 C s n z
theorem f113_6 : x_fetch q_k113 6 = x_st (x_push 7 (.int (0))) := rfl
theorem t113_6 (C : xF) (s n : Nat) (z : xS) : x_to q_k113 C s (n + 1) 6 z = x_nx q_k113 C s n ((x_st (x_push 7 (.int (0)))) C z) := x_to_at f113_6 C s n z
theorem f113_7 : x_fetch q_k113 7 = x_ldi 8 1 := rfl
theorem t113_7 (C : xF) (s n : Nat) (z : xS) : x_to q_k113 C s (n + 1) 7 z = x_nx q_k113 C s n ((x_ldi 8 1) C z) := x_to_at f113_7 C s n z
theorem f113_8 : x_fetch q_k113 8 = x_ast 9 0 (fun x => x) := rfl
theorem t113_8 (C : xF) (s n : Nat) (z : xS) : x_to q_k113 C s (n + 1) 8 z = x_nx q_k113 C s n ((x_ast 9 0 (fun x => x)) C z) := x_to_at f113_8 C s n z
theorem f113_9 : x_fetch q_k113 9 = x_lda 10 0 := rfl
theorem t113_9 (C : xF) (s n : Nat) (z : xS) : x_to q_k113 C s (n + 1) 9 z = x_nx q_k113 C s n ((x_lda 10 0) C z) := x_to_at f113_9 C s n z
theorem f113_10 : x_fetch q_k113 10 = x_gf 13 8 32 := rfl
theorem t113_10 (C : xF) (s n : Nat) (z : xS) : x_to q_k113 C s (n + 1) 10 z = x_nx q_k113 C s n ((x_gf 13 8 32) C z) := x_to_at f113_10 C s n z
theorem f113_13 : x_fetch q_k113 13 = x_st (x_push 14 (.int (0))) := rfl
theorem t113_13 (C : xF) (s n : Nat) (z : xS) : x_to q_k113 C s (n + 1) 13 z = x_nx q_k113 C s n ((x_st (x_push 14 (.int (0)))) C z) := x_to_at f113_13 C s n z
theorem f113_14 : x_fetch q_k113 14 = x_ldi 15 2 := rfl
theorem t113_14 (C : xF) (s n : Nat) (z : xS) : x_to q_k113 C s (n + 1) 14 z = x_nx q_k113 C s n ((x_ldi 15 2) C z) := x_to_at f113_14 C s n z
theorem f113_15 : x_fetch q_k113 15 = x_ast 16 0 (fun x => x) := rfl
theorem t113_15 (C : xF) (s n : Nat) (z : xS) : x_to q_k113 C s (n + 1) 15 z = x_nx q_k113 C s n ((x_ast 16 0 (fun x => x)) C z) := x_to_at f113_15 C s n z
theorem f113_16 : x_fetch q_k113 16 = x_ldi 17 3 := rfl
theorem t113_16 (C : xF) (s n : Nat) (z : xS) : x_to q_k113 C s (n + 1) 16 z = x_nx q_k113 C s n ((x_ldi 17 3) C z) := x_to_at f113_16 C s n z
theorem f113_17 : x_fetch q_k113 17 = x_st (x_ifle 228 20) := rfl
theorem t113_17 (C : xF) (s n : Nat) (z : xS) : x_to q_k113 C s (n + 1) 17 z = x_nx q_k113 C s n ((x_st (x_ifle 228 20)) C z) := x_to_at f113_17 C s n z
theorem f113_20 : x_fetch q_k113 20 = x_iinc 23 3 (-1) := rfl
theorem t113_20 (C : xF) (s n : Nat) (z : xS) : x_to q_k113 C s (n + 1) 20 z = x_nx q_k113 C s n ((x_iinc 23 3 (-1)) C z) := x_to_at f113_20 C s n z
theorem f113_23 : x_fetch q_k113 23 = x_lda 24 0 := rfl
theorem t113_23 (C : xF) (s n : Nat) (z : xS) : x_to q_k113 C s (n + 1) 23 z = x_nx q_k113 C s n ((x_lda 24 0) C z) := x_to_at f113_23 C s n z
theorem f113_24 : x_fetch q_k113 24 = x_lda 25 0 := rfl
theorem t113_24 (C : xF) (s n : Nat) (z : xS) : x_to q_k113 C s (n + 1) 24 z = x_nx q_k113 C s n ((x_lda 25 0) C z) := x_to_at f113_24 C s n z
theorem f113_25 : x_fetch q_k113 25 = x_gf 28 8 31 := rfl
theorem t113_25 (C : xF) (s n : Nat) (z : xS) : x_to q_k113 C s (n + 1) 25 z = x_nx q_k113 C s n ((x_gf 28 8 31) C z) := x_to_at f113_25 C s n z
theorem f113_28 : x_fetch q_k113 28 = x_ldi 29 3 := rfl
theorem t113_28 (C : xF) (s n : Nat) (z : xS) : x_to q_k113 C s (n + 1) 28 z = x_nx q_k113 C s n ((x_ldi 29 3) C z) := x_to_at f113_28 C s n z
theorem f113_29 : x_fetch q_k113 29 = x_ald 30 0 := rfl
theorem t113_29 (C : xF) (s n : Nat) (z : xS) : x_to q_k113 C s (n + 1) 29 z = x_nx q_k113 C s n ((x_ald 30 0) C z) := x_to_at f113_29 C s n z
theorem f113_30 : x_fetch q_k113 30 = x_cv 33 111 2 8 := rfl
theorem t113_30 (C : xF) (s n : Nat) (z : xS) : x_to q_k113 C s (n + 1) 30 z = x_nx q_k113 C s n ((x_cv 33 111 2 8) C z) := x_to_at f113_30 C s n z
theorem f113_33 : x_fetch q_k113 33 = x_sti 35 4 := rfl
theorem t113_33 (C : xF) (s n : Nat) (z : xS) : x_to q_k113 C s (n + 1) 33 z = x_nx q_k113 C s n ((x_sti 35 4) C z) := x_to_at f113_33 C s n z
theorem f113_35 : x_fetch q_k113 35 = x_lda 36 0 := rfl
theorem t113_35 (C : xF) (s n : Nat) (z : xS) : x_to q_k113 C s (n + 1) 35 z = x_nx q_k113 C s n ((x_lda 36 0) C z) := x_to_at f113_35 C s n z
theorem f113_36 : x_fetch q_k113 36 = x_lda 37 0 := rfl
theorem t113_36 (C : xF) (s n : Nat) (z : xS) : x_to q_k113 C s (n + 1) 36 z = x_nx q_k113 C s n ((x_lda 37 0) C z) := x_to_at f113_36 C s n z
theorem f113_37 : x_fetch q_k113 37 = x_gf 40 8 32 := rfl
theorem t113_37 (C : xF) (s n : Nat) (z : xS) : x_to q_k113 C s (n + 1) 37 z = x_nx q_k113 C s n ((x_gf 40 8 32) C z) := x_to_at f113_37 C s n z
theorem f113_40 : x_fetch q_k113 40 = x_ldi 41 3 := rfl
theorem t113_40 (C : xF) (s n : Nat) (z : xS) : x_to q_k113 C s (n + 1) 40 z = x_nx q_k113 C s n ((x_ldi 41 3) C z) := x_to_at f113_40 C s n z
theorem f113_41 : x_fetch q_k113 41 = x_ald 42 0 := rfl
theorem t113_41 (C : xF) (s n : Nat) (z : xS) : x_to q_k113 C s (n + 1) 41 z = x_nx q_k113 C s n ((x_ald 42 0) C z) := x_to_at f113_41 C s n z
theorem f113_42 : x_fetch q_k113 42 = x_cv 45 111 2 8 := rfl
theorem t113_42 (C : xF) (s n : Nat) (z : xS) : x_to q_k113 C s (n + 1) 42 z = x_nx q_k113 C s n ((x_cv 45 111 2 8) C z) := x_to_at f113_42 C s n z
theorem f113_45 : x_fetch q_k113 45 = x_sti 47 5 := rfl
theorem t113_45 (C : xF) (s n : Nat) (z : xS) : x_to q_k113 C s (n + 1) 45 z = x_nx q_k113 C s n ((x_sti 47 5) C z) := x_to_at f113_45 C s n z
theorem f113_47 : x_fetch q_k113 47 = x_lda 48 0 := rfl
theorem t113_47 (C : xF) (s n : Nat) (z : xS) : x_to q_k113 C s (n + 1) 47 z = x_nx q_k113 C s n ((x_lda 48 0) C z) := x_to_at f113_47 C s n z
theorem f113_48 : x_fetch q_k113 48 = x_gf 51 8 29 := rfl
theorem t113_48 (C : xF) (s n : Nat) (z : xS) : x_to q_k113 C s (n + 1) 48 z = x_nx q_k113 C s n ((x_gf 51 8 29) C z) := x_to_at f113_48 C s n z
theorem f113_51 : x_fetch q_k113 51 = x_ldi 53 4 := rfl
theorem t113_51 (C : xF) (s n : Nat) (z : xS) : x_to q_k113 C s (n + 1) 51 z = x_nx q_k113 C s n ((x_ldi 53 4) C z) := x_to_at f113_51 C s n z
theorem f113_53 : x_fetch q_k113 53 = x_ald 54 0 := rfl
theorem t113_53 (C : xF) (s n : Nat) (z : xS) : x_to q_k113 C s (n + 1) 53 z = x_nx q_k113 C s n ((x_ald 54 0) C z) := x_to_at f113_53 C s n z
theorem f113_54 : x_fetch q_k113 54 = x_sti 56 6 := rfl
theorem t113_54 (C : xF) (s n : Nat) (z : xS) : x_to q_k113 C s (n + 1) 54 z = x_nx q_k113 C s n ((x_sti 56 6) C z) := x_to_at f113_54 C s n z
theorem f113_56 : x_fetch q_k113 56 = x_lda 57 0 := rfl
theorem t113_56 (C : xF) (s n : Nat) (z : xS) : x_to q_k113 C s (n + 1) 56 z = x_nx q_k113 C s n ((x_lda 57 0) C z) := x_to_at f113_56 C s n z
theorem f113_57 : x_fetch q_k113 57 = x_gf 60 8 29 := rfl
theorem t113_57 (C : xF) (s n : Nat) (z : xS) : x_to q_k113 C s (n + 1) 57 z = x_nx q_k113 C s n ((x_gf 60 8 29) C z) := x_to_at f113_57 C s n z
theorem f113_60 : x_fetch q_k113 60 = x_ldi 62 5 := rfl
theorem t113_60 (C : xF) (s n : Nat) (z : xS) : x_to q_k113 C s (n + 1) 60 z = x_nx q_k113 C s n ((x_ldi 62 5) C z) := x_to_at f113_60 C s n z
theorem f113_62 : x_fetch q_k113 62 = x_ald 63 0 := rfl
theorem t113_62 (C : xF) (s n : Nat) (z : xS) : x_to q_k113 C s (n + 1) 62 z = x_nx q_k113 C s n ((x_ald 63 0) C z) := x_to_at f113_62 C s n z
theorem f113_63 : x_fetch q_k113 63 = x_sti 65 7 := rfl
theorem t113_63 (C : xF) (s n : Nat) (z : xS) : x_to q_k113 C s (n + 1) 63 z = x_nx q_k113 C s n ((x_sti 65 7) C z) := x_to_at f113_63 C s n z
theorem f113_65 : x_fetch q_k113 65 = x_ldi 67 6 := rfl
theorem t113_65 (C : xF) (s n : Nat) (z : xS) : x_to q_k113 C s (n + 1) 65 z = x_nx q_k113 C s n ((x_ldi 67 6) C z) := x_to_at f113_65 C s n z
theorem f113_67 : x_fetch q_k113 67 = x_st (x_push 69 (.int (99))) := rfl
theorem t113_67 (C : xF) (s n : Nat) (z : xS) : x_to q_k113 C s (n + 1) 67 z = x_nx q_k113 C s n ((x_st (x_push 69 (.int (99)))) C z) := x_to_at f113_67 C s n z
theorem f113_69 : x_fetch q_k113 69 = x_st (x_icge 104 72) := rfl
theorem t113_69 (C : xF) (s n : Nat) (z : xS) : x_to q_k113 C s (n + 1) 69 z = x_nx q_k113 C s n ((x_st (x_icge 104 72)) C z) := x_to_at f113_69 C s n z
theorem f113_72 : x_fetch q_k113 72 = x_ldi 74 6 := rfl
theorem t113_72 (C : xF) (s n : Nat) (z : xS) : x_to q_k113 C s (n + 1) 72 z = x_nx q_k113 C s n ((x_ldi 74 6) C z) := x_to_at f113_72 C s n z
theorem f113_74 : x_fetch q_k113 74 = x_ldi 76 7 := rfl
theorem t113_74 (C : xF) (s n : Nat) (z : xS) : x_to q_k113 C s (n + 1) 74 z = x_nx q_k113 C s n ((x_ldi 76 7) C z) := x_to_at f113_74 C s n z
theorem f113_76 : x_fetch q_k113 76 = x_st (x_iceq 104 79) := rfl
theorem t113_76 (C : xF) (s n : Nat) (z : xS) : x_to q_k113 C s (n + 1) 76 z = x_nx q_k113 C s n ((x_st (x_iceq 104 79)) C z) := x_to_at f113_76 C s n z
theorem f113_79 : x_fetch q_k113 79 = x_lda 80 0 := rfl
theorem t113_79 (C : xF) (s n : Nat) (z : xS) : x_to q_k113 C s (n + 1) 79 z = x_nx q_k113 C s n ((x_lda 80 0) C z) := x_to_at f113_79 C s n z
theorem f113_80 : x_fetch q_k113 80 = x_ldi 82 6 := rfl
theorem t113_80 (C : xF) (s n : Nat) (z : xS) : x_to q_k113 C s (n + 1) 80 z = x_nx q_k113 C s n ((x_ldi 82 6) C z) := x_to_at f113_80 C s n z
theorem f113_82 : x_fetch q_k113 82 = x_ldi 84 5 := rfl
theorem t113_82 (C : xF) (s n : Nat) (z : xS) : x_to q_k113 C s (n + 1) 82 z = x_nx q_k113 C s n ((x_ldi 84 5) C z) := x_to_at f113_82 C s n z
theorem f113_84 : x_fetch q_k113 84 = x_cv 87 112 3 8 := rfl
theorem t113_84 (C : xF) (s n : Nat) (z : xS) : x_to q_k113 C s (n + 1) 84 z = x_nx q_k113 C s n ((x_cv 87 112 3 8) C z) := x_to_at f113_84 C s n z
theorem f113_87 : x_fetch q_k113 87 = x_st (x_ifeq 92 90) := rfl
theorem t113_87 (C : xF) (s n : Nat) (z : xS) : x_to q_k113 C s (n + 1) 87 z = x_nx q_k113 C s n ((x_st (x_ifeq 92 90)) C z) := x_to_at f113_87 C s n z
theorem f113_90 : x_fetch q_k113 90 = x_st (x_push 91 (.int (0))) := rfl
theorem t113_90 (C : xF) (s n : Nat) (z : xS) : x_to q_k113 C s (n + 1) 90 z = x_nx q_k113 C s n ((x_st (x_push 91 (.int (0)))) C z) := x_to_at f113_90 C s n z
theorem f113_91 : x_fetch q_k113 91 = x_ri (.boolean) := rfl
theorem t113_91 (C : xF) (s n : Nat) (z : xS) : x_to q_k113 C s (n + 1) 91 z = x_nx q_k113 C s n ((x_ri (.boolean)) C z) := x_to_at f113_91 C s n z
theorem f113_92 : x_fetch q_k113 92 = x_lda 93 0 := rfl
theorem t113_92 (C : xF) (s n : Nat) (z : xS) : x_to q_k113 C s (n + 1) 92 z = x_nx q_k113 C s n ((x_lda 93 0) C z) := x_to_at f113_92 C s n z
theorem f113_93 : x_fetch q_k113 93 = x_gf 96 8 30 := rfl
theorem t113_93 (C : xF) (s n : Nat) (z : xS) : x_to q_k113 C s (n + 1) 93 z = x_nx q_k113 C s n ((x_gf 96 8 30) C z) := x_to_at f113_93 C s n z
theorem f113_96 : x_fetch q_k113 96 = x_ldi 98 6 := rfl
theorem t113_96 (C : xF) (s n : Nat) (z : xS) : x_to q_k113 C s (n + 1) 96 z = x_nx q_k113 C s n ((x_ldi 98 6) C z) := x_to_at f113_96 C s n z
theorem f113_98 : x_fetch q_k113 98 = x_ldi 100 5 := rfl
theorem t113_98 (C : xF) (s n : Nat) (z : xS) : x_to q_k113 C s (n + 1) 98 z = x_nx q_k113 C s n ((x_ldi 100 5) C z) := x_to_at f113_98 C s n z
theorem f113_100 : x_fetch q_k113 100 = x_ast 101 0 (fun x => x) := rfl
theorem t113_100 (C : xF) (s n : Nat) (z : xS) : x_to q_k113 C s (n + 1) 100 z = x_nx q_k113 C s n ((x_ast 101 0 (fun x => x)) C z) := x_to_at f113_100 C s n z
theorem f113_101 : x_fetch q_k113 101 = x_st (x_goto 225) := rfl
theorem t113_101 (C : xF) (s n : Nat) (z : xS) : x_to q_k113 C s (n + 1) 101 z = x_nx q_k113 C s n ((x_st (x_goto 225)) C z) := x_to_at f113_101 C s n z
theorem f113_104 : x_fetch q_k113 104 = x_ldi 106 7 := rfl
theorem t113_104 (C : xF) (s n : Nat) (z : xS) : x_to q_k113 C s (n + 1) 104 z = x_nx q_k113 C s n ((x_ldi 106 7) C z) := x_to_at f113_104 C s n z
theorem f113_106 : x_fetch q_k113 106 = x_st (x_push 108 (.int (99))) := rfl
theorem t113_106 (C : xF) (s n : Nat) (z : xS) : x_to q_k113 C s (n + 1) 106 z = x_nx q_k113 C s n ((x_st (x_push 108 (.int (99)))) C z) := x_to_at f113_106 C s n z
theorem f113_108 : x_fetch q_k113 108 = x_st (x_icge 143 111) := rfl
theorem t113_108 (C : xF) (s n : Nat) (z : xS) : x_to q_k113 C s (n + 1) 108 z = x_nx q_k113 C s n ((x_st (x_icge 143 111)) C z) := x_to_at f113_108 C s n z
theorem f113_111 : x_fetch q_k113 111 = x_ldi 113 6 := rfl
theorem t113_111 (C : xF) (s n : Nat) (z : xS) : x_to q_k113 C s (n + 1) 111 z = x_nx q_k113 C s n ((x_ldi 113 6) C z) := x_to_at f113_111 C s n z
theorem f113_113 : x_fetch q_k113 113 = x_ldi 115 7 := rfl
theorem t113_113 (C : xF) (s n : Nat) (z : xS) : x_to q_k113 C s (n + 1) 113 z = x_nx q_k113 C s n ((x_ldi 115 7) C z) := x_to_at f113_113 C s n z
theorem f113_115 : x_fetch q_k113 115 = x_st (x_iceq 143 118) := rfl
theorem t113_115 (C : xF) (s n : Nat) (z : xS) : x_to q_k113 C s (n + 1) 115 z = x_nx q_k113 C s n ((x_st (x_iceq 143 118)) C z) := x_to_at f113_115 C s n z
theorem f113_118 : x_fetch q_k113 118 = x_lda 119 0 := rfl
theorem t113_118 (C : xF) (s n : Nat) (z : xS) : x_to q_k113 C s (n + 1) 118 z = x_nx q_k113 C s n ((x_lda 119 0) C z) := x_to_at f113_118 C s n z
theorem f113_119 : x_fetch q_k113 119 = x_ldi 121 7 := rfl
theorem t113_119 (C : xF) (s n : Nat) (z : xS) : x_to q_k113 C s (n + 1) 119 z = x_nx q_k113 C s n ((x_ldi 121 7) C z) := x_to_at f113_119 C s n z
theorem f113_121 : x_fetch q_k113 121 = x_ldi 123 4 := rfl
theorem t113_121 (C : xF) (s n : Nat) (z : xS) : x_to q_k113 C s (n + 1) 121 z = x_nx q_k113 C s n ((x_ldi 123 4) C z) := x_to_at f113_121 C s n z
theorem f113_123 : x_fetch q_k113 123 = x_cv 126 112 3 8 := rfl
theorem t113_123 (C : xF) (s n : Nat) (z : xS) : x_to q_k113 C s (n + 1) 123 z = x_nx q_k113 C s n ((x_cv 126 112 3 8) C z) := x_to_at f113_123 C s n z
theorem f113_126 : x_fetch q_k113 126 = x_st (x_ifeq 131 129) := rfl
theorem t113_126 (C : xF) (s n : Nat) (z : xS) : x_to q_k113 C s (n + 1) 126 z = x_nx q_k113 C s n ((x_st (x_ifeq 131 129)) C z) := x_to_at f113_126 C s n z
theorem f113_129 : x_fetch q_k113 129 = x_st (x_push 130 (.int (0))) := rfl
theorem t113_129 (C : xF) (s n : Nat) (z : xS) : x_to q_k113 C s (n + 1) 129 z = x_nx q_k113 C s n ((x_st (x_push 130 (.int (0)))) C z) := x_to_at f113_129 C s n z
theorem f113_130 : x_fetch q_k113 130 = x_ri (.boolean) := rfl
theorem t113_130 (C : xF) (s n : Nat) (z : xS) : x_to q_k113 C s (n + 1) 130 z = x_nx q_k113 C s n ((x_ri (.boolean)) C z) := x_to_at f113_130 C s n z
theorem f113_131 : x_fetch q_k113 131 = x_lda 132 0 := rfl
theorem t113_131 (C : xF) (s n : Nat) (z : xS) : x_to q_k113 C s (n + 1) 131 z = x_nx q_k113 C s n ((x_lda 132 0) C z) := x_to_at f113_131 C s n z
theorem f113_132 : x_fetch q_k113 132 = x_gf 135 8 30 := rfl
theorem t113_132 (C : xF) (s n : Nat) (z : xS) : x_to q_k113 C s (n + 1) 132 z = x_nx q_k113 C s n ((x_gf 135 8 30) C z) := x_to_at f113_132 C s n z
theorem f113_135 : x_fetch q_k113 135 = x_ldi 137 7 := rfl
theorem t113_135 (C : xF) (s n : Nat) (z : xS) : x_to q_k113 C s (n + 1) 135 z = x_nx q_k113 C s n ((x_ldi 137 7) C z) := x_to_at f113_135 C s n z
theorem f113_137 : x_fetch q_k113 137 = x_ldi 139 4 := rfl
theorem t113_137 (C : xF) (s n : Nat) (z : xS) : x_to q_k113 C s (n + 1) 137 z = x_nx q_k113 C s n ((x_ldi 139 4) C z) := x_to_at f113_137 C s n z
theorem f113_139 : x_fetch q_k113 139 = x_ast 140 0 (fun x => x) := rfl
theorem t113_139 (C : xF) (s n : Nat) (z : xS) : x_to q_k113 C s (n + 1) 139 z = x_nx q_k113 C s n ((x_ast 140 0 (fun x => x)) C z) := x_to_at f113_139 C s n z
theorem f113_140 : x_fetch q_k113 140 = x_st (x_goto 225) := rfl
theorem t113_140 (C : xF) (s n : Nat) (z : xS) : x_to q_k113 C s (n + 1) 140 z = x_nx q_k113 C s n ((x_st (x_goto 225)) C z) := x_to_at f113_140 C s n z
theorem f113_143 : x_fetch q_k113 143 = x_ldi 145 6 := rfl
theorem t113_143 (C : xF) (s n : Nat) (z : xS) : x_to q_k113 C s (n + 1) 143 z = x_nx q_k113 C s n ((x_ldi 145 6) C z) := x_to_at f113_143 C s n z
theorem f113_145 : x_fetch q_k113 145 = x_ldi 147 7 := rfl
theorem t113_145 (C : xF) (s n : Nat) (z : xS) : x_to q_k113 C s (n + 1) 145 z = x_nx q_k113 C s n ((x_ldi 147 7) C z) := x_to_at f113_145 C s n z
theorem f113_147 : x_fetch q_k113 147 = x_st (x_iceq 152 150) := rfl
theorem t113_147 (C : xF) (s n : Nat) (z : xS) : x_to q_k113 C s (n + 1) 147 z = x_nx q_k113 C s n ((x_st (x_iceq 152 150)) C z) := x_to_at f113_147 C s n z
theorem f113_150 : x_fetch q_k113 150 = x_st (x_push 151 (.int (0))) := rfl
theorem t113_150 (C : xF) (s n : Nat) (z : xS) : x_to q_k113 C s (n + 1) 150 z = x_nx q_k113 C s n ((x_st (x_push 151 (.int (0)))) C z) := x_to_at f113_150 C s n z
theorem f113_151 : x_fetch q_k113 151 = x_ri (.boolean) := rfl
theorem t113_151 (C : xF) (s n : Nat) (z : xS) : x_to q_k113 C s (n + 1) 151 z = x_nx q_k113 C s n ((x_ri (.boolean)) C z) := x_to_at f113_151 C s n z
theorem f113_152 : x_fetch q_k113 152 = x_ldi 154 6 := rfl
theorem t113_152 (C : xF) (s n : Nat) (z : xS) : x_to q_k113 C s (n + 1) 152 z = x_nx q_k113 C s n ((x_ldi 154 6) C z) := x_to_at f113_152 C s n z
theorem f113_154 : x_fetch q_k113 154 = x_st (x_push 156 (.int (99))) := rfl
theorem t113_154 (C : xF) (s n : Nat) (z : xS) : x_to q_k113 C s (n + 1) 154 z = x_nx q_k113 C s n ((x_st (x_push 156 (.int (99)))) C z) := x_to_at f113_154 C s n z
theorem f113_156 : x_fetch q_k113 156 = x_st (x_iclt 225 159) := rfl
theorem t113_156 (C : xF) (s n : Nat) (z : xS) : x_to q_k113 C s (n + 1) 156 z = x_nx q_k113 C s n ((x_st (x_iclt 225 159)) C z) := x_to_at f113_156 C s n z
theorem f113_159 : x_fetch q_k113 159 = x_ldi 161 4 := rfl
theorem t113_159 (C : xF) (s n : Nat) (z : xS) : x_to q_k113 C s (n + 1) 159 z = x_nx q_k113 C s n ((x_ldi 161 4) C z) := x_to_at f113_159 C s n z
theorem f113_161 : x_fetch q_k113 161 = x_st (x_push 162 (.int (1))) := rfl
theorem t113_161 (C : xF) (s n : Nat) (z : xS) : x_to q_k113 C s (n + 1) 161 z = x_nx q_k113 C s n ((x_st (x_push 162 (.int (1)))) C z) := x_to_at f113_161 C s n z
theorem f113_162 : x_fetch q_k113 162 = x_st (x_bin 163 (fun a b => a + b)) := rfl
theorem t113_162 (C : xF) (s n : Nat) (z : xS) : x_to q_k113 C s (n + 1) 162 z = x_nx q_k113 C s n ((x_st (x_bin 163 (fun a b => a + b))) C z) := x_to_at f113_162 C s n z
theorem f113_163 : x_fetch q_k113 163 = x_sti 165 8 := rfl
theorem t113_163 (C : xF) (s n : Nat) (z : xS) : x_to q_k113 C s (n + 1) 163 z = x_nx q_k113 C s n ((x_sti 165 8) C z) := x_to_at f113_163 C s n z
theorem f113_165 : x_fetch q_k113 165 = x_ldi 167 5 := rfl
theorem t113_165 (C : xF) (s n : Nat) (z : xS) : x_to q_k113 C s (n + 1) 165 z = x_nx q_k113 C s n ((x_ldi 167 5) C z) := x_to_at f113_165 C s n z
theorem f113_167 : x_fetch q_k113 167 = x_st (x_push 168 (.int (1))) := rfl
theorem t113_167 (C : xF) (s n : Nat) (z : xS) : x_to q_k113 C s (n + 1) 167 z = x_nx q_k113 C s n ((x_st (x_push 168 (.int (1)))) C z) := x_to_at f113_167 C s n z
set_option maxRecDepth 20000 in
theorem f113_168 : x_fetch q_k113 168 = x_st (x_bin 169 (fun a b => a + b)) := rfl
theorem t113_168 (C : xF) (s n : Nat) (z : xS) : x_to q_k113 C s (n + 1) 168 z = x_nx q_k113 C s n ((x_st (x_bin 169 (fun a b => a + b))) C z) := x_to_at f113_168 C s n z
set_option maxRecDepth 20000 in
theorem f113_169 : x_fetch q_k113 169 = x_sti 171 9 := rfl
theorem t113_169 (C : xF) (s n : Nat) (z : xS) : x_to q_k113 C s (n + 1) 169 z = x_nx q_k113 C s n ((x_sti 171 9) C z) := x_to_at f113_169 C s n z
set_option maxRecDepth 20000 in
theorem f113_171 : x_fetch q_k113 171 = x_st (x_push 172 (.int (0))) := rfl
theorem t113_171 (C : xF) (s n : Nat) (z : xS) : x_to q_k113 C s (n + 1) 171 z = x_nx q_k113 C s n ((x_st (x_push 172 (.int (0)))) C z) := x_to_at f113_171 C s n z
set_option maxRecDepth 20000 in
theorem f113_172 : x_fetch q_k113 172 = x_sti 174 10 := rfl
theorem t113_172 (C : xF) (s n : Nat) (z : xS) : x_to q_k113 C s (n + 1) 172 z = x_nx q_k113 C s n ((x_sti 174 10) C z) := x_to_at f113_172 C s n z
set_option maxRecDepth 20000 in
theorem f113_174 : x_fetch q_k113 174 = x_ldi 176 10 := rfl
theorem t113_174 (C : xF) (s n : Nat) (z : xS) : x_to q_k113 C s (n + 1) 174 z = x_nx q_k113 C s n ((x_ldi 176 10) C z) := x_to_at f113_174 C s n z
set_option maxRecDepth 20000 in
theorem f113_176 : x_fetch q_k113 176 = x_ldi 178 6 := rfl
theorem t113_176 (C : xF) (s n : Nat) (z : xS) : x_to q_k113 C s (n + 1) 176 z = x_nx q_k113 C s n ((x_ldi 178 6) C z) := x_to_at f113_176 C s n z
set_option maxRecDepth 20000 in
theorem f113_178 : x_fetch q_k113 178 = x_cl_ 181 101 1 := rfl
theorem t113_178 (C : xF) (s n : Nat) (z : xS) : x_to q_k113 C s (n + 1) 178 z = x_nx q_k113 C s n ((x_cl_ 181 101 1) C z) := x_to_at f113_178 C s n z
set_option maxRecDepth 20000 in
theorem f113_181 : x_fetch q_k113 181 = x_st (x_icge 225 184) := rfl
theorem t113_181 (C : xF) (s n : Nat) (z : xS) : x_to q_k113 C s (n + 1) 181 z = x_nx q_k113 C s n ((x_st (x_icge 225 184)) C z) := x_to_at f113_181 C s n z
set_option maxRecDepth 20000 in
theorem f113_184 : x_fetch q_k113 184 = x_lda 185 0 := rfl
theorem t113_184 (C : xF) (s n : Nat) (z : xS) : x_to q_k113 C s (n + 1) 184 z = x_nx q_k113 C s n ((x_lda 185 0) C z) := x_to_at f113_184 C s n z
set_option maxRecDepth 20000 in
theorem f113_185 : x_fetch q_k113 185 = x_gf 188 8 31 := rfl
theorem t113_185 (C : xF) (s n : Nat) (z : xS) : x_to q_k113 C s (n + 1) 185 z = x_nx q_k113 C s n ((x_gf 188 8 31) C z) := x_to_at f113_185 C s n z
set_option maxRecDepth 20000 in
theorem f113_188 : x_fetch q_k113 188 = x_ldi 189 3 := rfl
theorem t113_188 (C : xF) (s n : Nat) (z : xS) : x_to q_k113 C s (n + 1) 188 z = x_nx q_k113 C s n ((x_ldi 189 3) C z) := x_to_at f113_188 C s n z
set_option maxRecDepth 20000 in
theorem f113_189 : x_fetch q_k113 189 = x_ldi 191 8 := rfl
theorem t113_189 (C : xF) (s n : Nat) (z : xS) : x_to q_k113 C s (n + 1) 189 z = x_nx q_k113 C s n ((x_ldi 191 8) C z) := x_to_at f113_189 C s n z
set_option maxRecDepth 20000 in
theorem f113_191 : x_fetch q_k113 191 = x_ast 192 0 (fun x => x) := rfl
theorem t113_191 (C : xF) (s n : Nat) (z : xS) : x_to q_k113 C s (n + 1) 191 z = x_nx q_k113 C s n ((x_ast 192 0 (fun x => x)) C z) := x_to_at f113_191 C s n z
set_option maxRecDepth 20000 in
theorem f113_192 : x_fetch q_k113 192 = x_lda 193 0 := rfl
theorem t113_192 (C : xF) (s n : Nat) (z : xS) : x_to q_k113 C s (n + 1) 192 z = x_nx q_k113 C s n ((x_lda 193 0) C z) := x_to_at f113_192 C s n z
set_option maxRecDepth 20000 in
theorem f113_193 : x_fetch q_k113 193 = x_gf 196 8 32 := rfl
theorem t113_193 (C : xF) (s n : Nat) (z : xS) : x_to q_k113 C s (n + 1) 193 z = x_nx q_k113 C s n ((x_gf 196 8 32) C z) := x_to_at f113_193 C s n z
set_option maxRecDepth 20000 in
theorem f113_196 : x_fetch q_k113 196 = x_ldi 197 3 := rfl
theorem t113_196 (C : xF) (s n : Nat) (z : xS) : x_to q_k113 C s (n + 1) 196 z = x_nx q_k113 C s n ((x_ldi 197 3) C z) := x_to_at f113_196 C s n z
set_option maxRecDepth 20000 in
theorem f113_197 : x_fetch q_k113 197 = x_ldi 199 9 := rfl
theorem t113_197 (C : xF) (s n : Nat) (z : xS) : x_to q_k113 C s (n + 1) 197 z = x_nx q_k113 C s n ((x_ldi 199 9) C z) := x_to_at f113_197 C s n z
set_option maxRecDepth 20000 in
theorem f113_199 : x_fetch q_k113 199 = x_ast 200 0 (fun x => x) := rfl
theorem t113_199 (C : xF) (s n : Nat) (z : xS) : x_to q_k113 C s (n + 1) 199 z = x_nx q_k113 C s n ((x_ast 200 0 (fun x => x)) C z) := x_to_at f113_199 C s n z
set_option maxRecDepth 20000 in
theorem f113_200 : x_fetch q_k113 200 = x_iinc 203 3 (1) := rfl
theorem t113_200 (C : xF) (s n : Nat) (z : xS) : x_to q_k113 C s (n + 1) 200 z = x_nx q_k113 C s n ((x_iinc 203 3 (1)) C z) := x_to_at f113_200 C s n z
set_option maxRecDepth 20000 in
theorem f113_203 : x_fetch q_k113 203 = x_lda 204 0 := rfl
theorem t113_203 (C : xF) (s n : Nat) (z : xS) : x_to q_k113 C s (n + 1) 203 z = x_nx q_k113 C s n ((x_lda 204 0) C z) := x_to_at f113_203 C s n z
set_option maxRecDepth 20000 in
theorem f113_204 : x_fetch q_k113 204 = x_ldi 206 8 := rfl
theorem t113_204 (C : xF) (s n : Nat) (z : xS) : x_to q_k113 C s (n + 1) 204 z = x_nx q_k113 C s n ((x_ldi 206 8) C z) := x_to_at f113_204 C s n z
set_option maxRecDepth 20000 in
theorem f113_206 : x_fetch q_k113 206 = x_cv 209 109 2 8 := rfl
theorem t113_206 (C : xF) (s n : Nat) (z : xS) : x_to q_k113 C s (n + 1) 206 z = x_nx q_k113 C s n ((x_cv 209 109 2 8) C z) := x_to_at f113_206 C s n z
set_option maxRecDepth 20000 in
theorem f113_209 : x_fetch q_k113 209 = x_sti 211 8 := rfl
theorem t113_209 (C : xF) (s n : Nat) (z : xS) : x_to q_k113 C s (n + 1) 209 z = x_nx q_k113 C s n ((x_sti 211 8) C z) := x_to_at f113_209 C s n z
set_option maxRecDepth 20000 in
theorem f113_211 : x_fetch q_k113 211 = x_lda 212 0 := rfl
theorem t113_211 (C : xF) (s n : Nat) (z : xS) : x_to q_k113 C s (n + 1) 211 z = x_nx q_k113 C s n ((x_lda 212 0) C z) := x_to_at f113_211 C s n z
set_option maxRecDepth 20000 in
theorem f113_212 : x_fetch q_k113 212 = x_ldi 214 9 := rfl
theorem t113_212 (C : xF) (s n : Nat) (z : xS) : x_to q_k113 C s (n + 1) 212 z = x_nx q_k113 C s n ((x_ldi 214 9) C z) := x_to_at f113_212 C s n z
set_option maxRecDepth 20000 in
theorem f113_214 : x_fetch q_k113 214 = x_cv 217 109 2 8 := rfl
theorem t113_214 (C : xF) (s n : Nat) (z : xS) : x_to q_k113 C s (n + 1) 214 z = x_nx q_k113 C s n ((x_cv 217 109 2 8) C z) := x_to_at f113_214 C s n z
set_option maxRecDepth 20000 in
theorem f113_217 : x_fetch q_k113 217 = x_sti 219 9 := rfl
theorem t113_217 (C : xF) (s n : Nat) (z : xS) : x_to q_k113 C s (n + 1) 217 z = x_nx q_k113 C s n ((x_sti 219 9) C z) := x_to_at f113_217 C s n z
set_option maxRecDepth 20000 in
theorem f113_219 : x_fetch q_k113 219 = x_iinc 222 10 (1) := rfl
theorem t113_219 (C : xF) (s n : Nat) (z : xS) : x_to q_k113 C s (n + 1) 219 z = x_nx q_k113 C s n ((x_iinc 222 10 (1)) C z) := x_to_at f113_219 C s n z
set_option maxRecDepth 20000 in
theorem f113_222 : x_fetch q_k113 222 = x_st (x_goto 174) := rfl
theorem t113_222 (C : xF) (s n : Nat) (z : xS) : x_to q_k113 C s (n + 1) 222 z = x_nx q_k113 C s n ((x_st (x_goto 174)) C z) := x_to_at f113_222 C s n z
set_option maxRecDepth 20000 in
theorem f113_225 : x_fetch q_k113 225 = x_st (x_goto 16) := rfl
theorem t113_225 (C : xF) (s n : Nat) (z : xS) : x_to q_k113 C s (n + 1) 225 z = x_nx q_k113 C s n ((x_st (x_goto 16)) C z) := x_to_at f113_225 C s n z
set_option maxRecDepth 20000 in
theorem f113_228 : x_fetch q_k113 228 = x_st (x_push 229 (.int (1))) := rfl
theorem t113_228 (C : xF) (s n : Nat) (z : xS) : x_to q_k113 C s (n + 1) 228 z = x_nx q_k113 C s n ((x_st (x_push 229 (.int (1)))) C z) := x_to_at f113_228 C s n z
set_option maxRecDepth 20000 in
theorem f113_229 : x_fetch q_k113 229 = x_ri (.boolean) := rfl
theorem t113_229 (C : xF) (s n : Nat) (z : xS) : x_to q_k113 C s (n + 1) 229 z = x_nx q_k113 C s n ((x_ri (.boolean)) C z) := x_to_at f113_229 C s n z
theorem apos_end {P : List Int} : ∀ {m j q : Nat}, Ts m (tk m (P.drop j)) → q ∈ apos P m j → q + (tm P q).length ≤ j + (tk m (P.drop j)).length
  | 0, _, _, _, h => by cases h
  | m + 1, j, q, hT, h => by
    rw [show tk (m + 1) (P.drop j) = tk (1 + m) (P.drop j) by rw [Nat.add_comm]] at hT ⊢
    rw [Nat.add_comm] at hT
    have hT' : Ts (1 + m) (tk (1 + m) (P.drop j)) := by rw [Nat.add_comm 1 m]; rw [Nat.add_comm 1 m] at hT; exact hT
    obtain ⟨h1, h2, h3⟩ := tk_cut hT'
    rw [List.drop_drop] at h2 h3
    rw [h3, List.length_append]
    rcases List.mem_cons.mp h with rfl | h
    · show q + (tk 1 (P.drop q)).length ≤ _
      omega
    · have := apos_end (P := P) (m := m) (j := j + (tm P j).length) h2 h
      have e : tk m (P.drop (j + (tk 1 (P.drop j)).length)) = tk m (P.drop (j + (tm P j).length)) := rfl
      rw [e]
      have e2 : (tk 1 (P.drop j)).length = (tm P j).length := rfl
      omega
/-- a place that may be unified: its term lies in the first 88 -/
def okp (S : List Int) (p : Int) : Prop := 0 ≤ p ∧ p + (tm S p.toNat).length ≤ 88 ∧ Ts 1 (tm S p.toNat)
theorem okp_lt {S : List Int} {p : Int} (h : okp S p) : p < 88 := by
  have := List.length_pos_iff.mpr (Ts_ne (n := 0) h.2.2)
  have := h.2.1
  omega
theorem okp_arg {S : List Int} (hl : S.length = 160) {p : Int} (h : okp S p) {x : Nat} (hx : x ∈ args S p.toNat) : okp S x := by
  have hlt := okp_lt h
  obtain ⟨h1, h2, h3⟩ := h
  obtain ⟨A1, A2⟩ := args_ok (by omega) h3
  have hb := A2 x hx
  have h3' := h3
  rw [tm_eq (by omega)] at h3'
  have hT : Ts (ar (pz S p.toNat)) (tk (ar (pz S p.toNat)) (S.drop (p.toNat + 1))) := by
    have : Ts (0 + ar (pz S p.toNat)) (tk (ar (pz S p.toNat)) (S.drop (p.toNat + 1))) := h3'
    rw [Nat.zero_add] at this
    exact this
  have he := apos_end hT hx
  have e : (tm S p.toNat).length = 1 + (tk (ar (pz S p.toNat)) (S.drop (p.toNat + 1))).length := by
    rw [tm_eq (by omega), List.length_cons]
    omega
  refine ⟨by omega, ?_, ?_⟩
  · rw [Int.toNat_natCast]
    omega
  · rw [Int.toNat_natCast]
    exact hb.1
def BdOK (S Bd : List Int) (ρ : Int → List Int) : Prop := Bd.length = 52 ∧ (∀ v, 0 ≤ v → v < 52 → -1 ≤ gZ Bd v ∧ (0 ≤ gZ Bd v → okp S (gZ Bd v))) ∧ RB S (bdf Bd) ρ ∧ ∀ v, ρ v ≠ []
def SOK (S : List Int) : Prop := S.length = 160 ∧ (∀ i, 0 ≤ gZ S i ∧ gZ S i < 100000) ∧ ∀ i, gZ S i < 99 → gZ S i < 52
theorem BdOK.lt {S Bd : List Int} {ρ : Int → List Int} (hS : SOK S) (h : BdOK S Bd ρ) : ∀ v, 0 ≤ v → v < 52 → -1 ≤ gZ Bd v ∧ gZ Bd v < S.length := fun v h0 h1 => by
  have := h.2.1 v h0 h1
  have hl := hS.1
  by_cases h2 : 0 ≤ gZ Bd v
  · have := okp_lt (this.2 h2)
    omega
  · omega
theorem BdOK.bl {S Bd : List Int} {ρ : Int → List Int} (hS : SOK S) (h : BdOK S Bd ρ) : ∀ v, v < 99 → bdf Bd v < S.length := fun v h1 => by
  have hl := hS.1
  unfold bdf
  split
  · next h9 => exact (h.lt hS v h9.1 h9.2).2
  · omega
theorem ld_ok {S Bd : List Int} {ρ : Int → List Int} (h : BdOK S Bd ρ) (hS : SOK S) : ∀ (k : Nat) (p : Int), okp S p → okp S (ld S (bdf Bd) k p.toNat)
  | 0, p, hp => by
    show okp S ((p.toNat : Nat) : Int)
    rw [show ((p.toNat : Nat) : Int) = p by have := hp.1; omega]
    exact hp
  | k + 1, p, hp => by
    unfold ld
    split
    · next g =>
      have g1 := hS.2.1 p
      have g2 := hS.2.2 p g.1
      have e : bdf Bd (pz S p.toNat) = gZ Bd (gZ S p) := by
        rw [← gZ_pz]
        exact bdf_in g1.1 g2
      rw [e] at g ⊢
      exact ld_ok h hS k (gZ Bd (gZ S p)) ((h.2.1 _ g1.1 g2).2 g.2)
    · rw [show ((p.toNat : Nat) : Int) = p by have := hp.1; omega]
      exact hp
section UN
variable {w : Nat → xC} {N : Nat} {m : Nat → Int} {S Bd : List Int} {ρ : Int → List Int}
theorem m111 (d : Nat) (hN : 53 ≤ N) (hm : w 27 = .inr (8, mF m)) (hW : w 45 = cI 0 S) (hB : w 46 = cI 0 Bd) (hS : SOK S) (h : BdOK S Bd ρ) (p : Int) (ho : okp S p) :
    Xc (d + 1) 111 [.ref 30, .int (iZ p)] (hp w N) (some (.int (iZ (ld S (bdf Bd) (sub ρ (tm S p.toNat)).length p.toNat))), hp w N) := by
  have hlt := okp_lt ho
  have hl := hS.1
  refine Xc.of rfl (by simp [lg_sl, Value.category]) ?_ (x_le.rf)
  have hc : c1 (lv_args 0 [.ref 30, .int (iZ p)]) := by simp [c1, lv_args, Value.category]
  have l0 : x_lk (lv_args 0 [.ref 30, .int (iZ p)]) 0 = some (.ref 30) := rfl
  have l1 : x_lk (lv_args 0 [.ref 30, .int (iZ p)]) 1 = some (.int (iZ p)) := rfl
  generalize lv_args 0 [.ref 30, .int (iZ p)] = lv at hc l0 l1
  refine Gx.run 20 Cs.tt (fun C _ => ?_) (l111 d hN hm hW hB (by omega) h.1 hS.2.1 hS.2.2 (h.lt hS) h.2.2.1 _ p ((2, .int (iZ p)) :: List.filter (x_keep 2) lv) ho.1 (by omega) (Nat.le_refl _) (c1_st rfl hc) (by rw [lk_s hc]; exact l0) (by rw [lk_s hc]; rfl))
  simp (disch := first | (refine c1_id ?_; assumption) | (refine c1_st rfl ?_; repeat (first | assumption | refine c1_st rfl ?_)) | omega) [nx_l, nx_r, nx_n, x_st, x_push, x_bin, x_div, x_un, x_dup, x_pop, x_dup2, x_goto, x_ifeq, x_ifne, x_iflt, x_ifge, x_ifgt, x_ifle, x_iceq, x_icne, x_iclt, x_icge, x_icgt, x_icle, x_ifnull, x_ifnonnull, x_ldi, x_lda, x_sti, x_sta, x_iinc, x_gf, x_pf, x_ald, x_ast, x_aln, x_len, x_cl_, x_cv, x_cs, x_rc, x_r0, x_isT, x_oi, x_rv, x_ri, x_ra, Value.category, t111_0, t111_1, t111_2, t111_3, t111_6, t111_7, t111_8, t111_10, t111_13, t111_14, t111_17, t111_18, t111_21, t111_22, t111_23, t111_24, t111_27, t111_28, t111_31, t111_32, t111_35, t111_36, t111_37, t111_38, t111_39, t111_42, t111_43, lk_s, hp_get, hp_set, uH_at, uH_ne, uH_upd, uH_swap, iZ_add, iZ_sub, iZ_mul, iZ_neg, iZ_lt, iZ_le, iZ_eq, iZ_div, iZ_of, ix_Z, gZ_map, gZ_mapI, gZ_map', le_0, le_s, sZ_map, sZ_len, bZ_0, bZ_inj, bZ_t, bZ_f, nr_i, nr_0, nr_1, nr_b, ft_i, ft_b, ft_0, ft_1, zl_0, zl_1, zl_99, mF_len, mg_0, mg_1, mg_2, mg_3, mg_4, mg_5, mg_6, mg_7, mg_8, mg_9, mg_10, mg_11, mg_12, mg_13, mg_14, mg_15, mg_16, mg_17, mg_18, mg_19, mg_20, mg_21, mg_22, mg_23, mg_24, mg_25, mg_26, mg_27, mg_28, mg_29, mg_30, mg_31, mg_32, mg_33, mg_34, mg_35, mg_36, mg_37, mg_38, ms_0, ms_1, ms_2, ms_13, ms_14, ms_15, ms_16, ms_21, ms_22, ms_23, ms_24, ms_28, ms_36, ms_37, ms_38, st_at, st_ne, st_st, st_swap, l0, l1, -List.filter_filter, -List.getElem?_map, -List.getD_eq_getElem?_getD]
def unH (w : Nat → xC) (N : Nat) (Bd Lf Rg St En : List Int) : xH := hp (uH (uH (uH (uH (uH w 46 (cI 0 Bd)) 47 (cI 0 Lf)) 48 (cI 0 Rg)) 49 (cI 0 St)) 50 (cI 0 En)) N
def unW (w : Nat → xC) (Bd Lf Rg St En : List Int) : Nat → xC := uH (uH (uH (uH (uH w 46 (cI 0 Bd)) 47 (cI 0 Lf)) 48 (cI 0 Rg)) 49 (cI 0 St)) 50 (cI 0 En)
theorem unW_m (hm : w 27 = .inr (8, mF m)) (Bd Lf Rg St En : List Int) : unW w Bd Lf Rg St En 27 = .inr (8, mF m) := by
  unfold unW
  rw [uH_ne (by omega), uH_ne (by omega), uH_ne (by omega), uH_ne (by omega), uH_ne (by omega)]
  exact hm
theorem unW_S (hW : w 45 = cI 0 S) (Bd Lf Rg St En : List Int) : unW w Bd Lf Rg St En 45 = cI 0 S := by
  unfold unW
  rw [uH_ne (by omega), uH_ne (by omega), uH_ne (by omega), uH_ne (by omega), uH_ne (by omega)]
  exact hW
theorem unW_B (w : Nat → xC) (Bd Lf Rg St En : List Int) : unW w Bd Lf Rg St En 46 = cI 0 Bd := by
  unfold unW
  rw [uH_ne (by omega), uH_ne (by omega), uH_ne (by omega), uH_ne (by omega), uH_at]
/-- the terms of two places are pushed -/
theorem l113_174 (d : Nat) (hN : 53 ≤ N) (hm : w 27 = .inr (8, mF m)) (hW : w 45 = cI 0 S) (hS : SOK S) (s : Int) (s0 : 0 ≤ s) (s1 : s < 100000) (St En : List Int) : ∀ (r : Nat) (k x y T : Int) (Lf Rg : List Int) (lv : xL), Lf.length = 400 → Rg.length = 400 → k + r = (ar s : Int) → 0 ≤ k → 0 ≤ x → 0 ≤ y → Ts r (tk r (S.drop x.toNat)) → Ts r (tk r (S.drop y.toNat)) → 0 ≤ T → T + r ≤ 400 → c1 lv → x_lk lv 0 = some (.ref 30) → x_lk lv 3 = some (.int (iZ T)) → x_lk lv 6 = some (.int (iZ s)) → x_lk lv 8 = some (.int (iZ x)) → x_lk lv 9 = some (.int (iZ y)) → x_lk lv 10 = some (.int (iZ k)) →
    ∃ lv', c1 lv' ∧ x_lk lv' 0 = some (.ref 30) ∧ x_lk lv' 3 = some (.int (iZ (T + r))) ∧ ∀ res, Gx q_k113 (d + 3) 16 (lv', [], unH w N Bd (psh S Lf T r x) (psh S Rg T r y) St En) res → Gx q_k113 (d + 3) 174 (lv, [], unH w N Bd Lf Rg St En) res := by
  have ha := ar_le s
  intro r
  induction r with
  | zero =>
    intro k x y T Lf Rg lv hl1 hl2 hk h0 hx hy Tx Ty hT hT2 hc l0 l3 l6 l8 l9 l10
    refine ⟨lv, hc, l0, by rw [show T + ((0 : Nat) : Int) = T by omega]; exact l3, fun res k3 => ?_⟩
    have mm := m101 (d + 2) (unW w Bd Lf Rg St En) N s (by omega) (by omega)
    refine Gx.run 60 mm (fun C mm => ?_) k3
    unfold unW at mm
    have b1 : (ar s : Int) ≤ k := by omega
    simp (disch := first | (refine c1_id ?_; assumption) | (refine c1_st rfl ?_; repeat (first | assumption | refine c1_st rfl ?_)) | omega) [nx_l, nx_r, nx_n, x_st, x_push, x_bin, x_div, x_un, x_dup, x_pop, x_dup2, x_goto, x_ifeq, x_ifne, x_iflt, x_ifge, x_ifgt, x_ifle, x_iceq, x_icne, x_iclt, x_icge, x_icgt, x_icle, x_ifnull, x_ifnonnull, x_ldi, x_lda, x_sti, x_sta, x_iinc, x_gf, x_pf, x_ald, x_ast, x_aln, x_len, x_cl_, x_cv, x_cs, x_rc, x_r0, x_isT, x_oi, x_rv, x_ri, x_ra, Value.category, t113_0, t113_1, t113_2, t113_3, t113_6, t113_7, t113_8, t113_9, t113_10, t113_13, t113_14, t113_15, t113_16, t113_17, t113_20, t113_23, t113_24, t113_25, t113_28, t113_29, t113_30, t113_33, t113_35, t113_36, t113_37, t113_40, t113_41, t113_42, t113_45, t113_47, t113_48, t113_51, t113_53, t113_54, t113_56, t113_57, t113_60, t113_62, t113_63, t113_65, t113_67, t113_69, t113_72, t113_74, t113_76, t113_79, t113_80, t113_82, t113_84, t113_87, t113_90, t113_91, t113_92, t113_93, t113_96, t113_98, t113_100, t113_101, t113_104, t113_106, t113_108, t113_111, t113_113, t113_115, t113_118, t113_119, t113_121, t113_123, t113_126, t113_129, t113_130, t113_131, t113_132, t113_135, t113_137, t113_139, t113_140, t113_143, t113_145, t113_147, t113_150, t113_151, t113_152, t113_154, t113_156, t113_159, t113_161, t113_162, t113_163, t113_165, t113_167, t113_168, t113_169, t113_171, t113_172, t113_174, t113_176, t113_178, t113_181, t113_184, t113_185, t113_188, t113_189, t113_191, t113_192, t113_193, t113_196, t113_197, t113_199, t113_200, t113_203, t113_204, t113_206, t113_209, t113_211, t113_212, t113_214, t113_217, t113_219, t113_222, t113_225, t113_228, t113_229, lk_s, hp_get, hp_set, uH_at, uH_ne, uH_upd, uH_swap, iZ_add, iZ_sub, iZ_mul, iZ_neg, iZ_lt, iZ_le, iZ_eq, iZ_div, iZ_of, ix_Z, gZ_map, gZ_mapI, gZ_map', le_0, le_s, sZ_map, sZ_len, bZ_0, bZ_inj, bZ_t, bZ_f, nr_i, nr_0, nr_1, nr_b, ft_i, ft_b, ft_0, ft_1, zl_0, zl_1, zl_99, mF_len, mg_0, mg_1, mg_2, mg_3, mg_4, mg_5, mg_6, mg_7, mg_8, mg_9, mg_10, mg_11, mg_12, mg_13, mg_14, mg_15, mg_16, mg_17, mg_18, mg_19, mg_20, mg_21, mg_22, mg_23, mg_24, mg_25, mg_26, mg_27, mg_28, mg_29, mg_30, mg_31, mg_32, mg_33, mg_34, mg_35, mg_36, mg_37, mg_38, ms_0, ms_1, ms_2, ms_13, ms_14, ms_15, ms_16, ms_21, ms_22, ms_23, ms_24, ms_28, ms_36, ms_37, ms_38, st_at, st_ne, st_st, st_swap, unH, psh, l0, l3, l6, l10, mm, b1, -List.filter_filter, -List.getElem?_map, -List.getD_eq_getElem?_getD]
  | succ r ih =>
    intro k x y T Lf Rg lv hl1 hl2 hk h0 hx hy Tx Ty hT hT2 hc l0 l3 l6 l8 l9 l10
    rw [Nat.add_comm] at Tx Ty
    obtain ⟨x1, x2, x3⟩ := tk_cut Tx
    obtain ⟨y1, y2, y3⟩ := tk_cut Ty
    rw [List.drop_drop] at x2 y2
    have ex : (x + ((tm S x.toNat).length : Int)).toNat = x.toNat + (tk 1 (S.drop x.toNat)).length := by
      show _ = x.toNat + (tm S x.toNat).length
      omega
    have ey : (y + ((tm S y.toNat).length : Int)).toNat = y.toNat + (tk 1 (S.drop y.toNat)).length := by
      show _ = y.toNat + (tm S y.toNat).length
      omega
    rw [← ex] at x2
    rw [← ey] at y2
    have hl := hS.1
    have mm := m101 (d + 2) (unW w Bd Lf Rg St En) N s (by omega) (by omega)
    have m1 := m109 (d + 1) (w := unW w Bd (sZ Lf T x) (sZ Rg T y) St En) (m := m) (S := S) (N := N) hN (unW_m hm _ _ _ _ _) (unW_S hW _ _ _ _ _) (by omega) hS.2.1 x hx x1
    have m2 := m109 (d + 1) (w := unW w Bd (sZ Lf T x) (sZ Rg T y) St En) (m := m) (S := S) (N := N) hN (unW_m hm _ _ _ _ _) (unW_S hW _ _ _ _ _) (by omega) hS.2.1 y hy y1
    obtain ⟨lv', q1, q2, q3, k4⟩ := ih (k + 1) (x + (tm S x.toNat).length) (y + (tm S y.toNat).length) (T + 1) (sZ Lf T x) (sZ Rg T y) ((10, .int (iZ (k + 1))) :: List.filter (x_keep 10) ((9, .int (iZ (y + (tm S y.toNat).length))) :: List.filter (x_keep 9) ((8, .int (iZ (x + (tm S x.toNat).length))) :: List.filter (x_keep 8) ((3, .int (iZ (T + 1))) :: List.filter (x_keep 3) lv)))) (by rw [sZ_len]; exact hl1) (by rw [sZ_len]; exact hl2) (by omega) (by omega) (by omega) (by omega) x2 y2 (by omega) (by omega) (c1_st rfl (c1_st rfl (c1_st rfl (c1_st rfl hc))))
      (by rw [lk_s (c1_st rfl (c1_st rfl (c1_st rfl hc))), lk_s (c1_st rfl (c1_st rfl hc)), lk_s (c1_st rfl hc), lk_s hc]; exact l0) (by rw [lk_s (c1_st rfl (c1_st rfl (c1_st rfl hc))), lk_s (c1_st rfl (c1_st rfl hc)), lk_s (c1_st rfl hc), lk_s hc]; rfl) (by rw [lk_s (c1_st rfl (c1_st rfl (c1_st rfl hc))), lk_s (c1_st rfl (c1_st rfl hc)), lk_s (c1_st rfl hc), lk_s hc]; exact l6) (by rw [lk_s (c1_st rfl (c1_st rfl (c1_st rfl hc))), lk_s (c1_st rfl (c1_st rfl hc)), lk_s (c1_st rfl hc)]; rfl) (by rw [lk_s (c1_st rfl (c1_st rfl (c1_st rfl hc))), lk_s (c1_st rfl (c1_st rfl hc))]; rfl) (by rw [lk_s (c1_st rfl (c1_st rfl (c1_st rfl hc)))]; rfl)
    refine ⟨lv', q1, q2, by rw [show T + ((r + 1 : Nat) : Int) = T + 1 + (r : Int) by omega]; exact q3, fun res k3 => Gx.run 80 (mm.and (m1.and m2)) (fun C mm => ?_) (k4 res k3)⟩
    obtain ⟨mm, m1, m2⟩ := mm
    unfold unW at mm m1 m2
    have b1 : ¬ (ar s : Int) ≤ k := by omega
    simp (disch := first | (refine c1_id ?_; assumption) | (refine c1_st rfl ?_; repeat (first | assumption | refine c1_st rfl ?_)) | omega) [nx_l, nx_r, nx_n, x_st, x_push, x_bin, x_div, x_un, x_dup, x_pop, x_dup2, x_goto, x_ifeq, x_ifne, x_iflt, x_ifge, x_ifgt, x_ifle, x_iceq, x_icne, x_iclt, x_icge, x_icgt, x_icle, x_ifnull, x_ifnonnull, x_ldi, x_lda, x_sti, x_sta, x_iinc, x_gf, x_pf, x_ald, x_ast, x_aln, x_len, x_cl_, x_cv, x_cs, x_rc, x_r0, x_isT, x_oi, x_rv, x_ri, x_ra, Value.category, t113_0, t113_1, t113_2, t113_3, t113_6, t113_7, t113_8, t113_9, t113_10, t113_13, t113_14, t113_15, t113_16, t113_17, t113_20, t113_23, t113_24, t113_25, t113_28, t113_29, t113_30, t113_33, t113_35, t113_36, t113_37, t113_40, t113_41, t113_42, t113_45, t113_47, t113_48, t113_51, t113_53, t113_54, t113_56, t113_57, t113_60, t113_62, t113_63, t113_65, t113_67, t113_69, t113_72, t113_74, t113_76, t113_79, t113_80, t113_82, t113_84, t113_87, t113_90, t113_91, t113_92, t113_93, t113_96, t113_98, t113_100, t113_101, t113_104, t113_106, t113_108, t113_111, t113_113, t113_115, t113_118, t113_119, t113_121, t113_123, t113_126, t113_129, t113_130, t113_131, t113_132, t113_135, t113_137, t113_139, t113_140, t113_143, t113_145, t113_147, t113_150, t113_151, t113_152, t113_154, t113_156, t113_159, t113_161, t113_162, t113_163, t113_165, t113_167, t113_168, t113_169, t113_171, t113_172, t113_174, t113_176, t113_178, t113_181, t113_184, t113_185, t113_188, t113_189, t113_191, t113_192, t113_193, t113_196, t113_197, t113_199, t113_200, t113_203, t113_204, t113_206, t113_209, t113_211, t113_212, t113_214, t113_217, t113_219, t113_222, t113_225, t113_228, t113_229, lk_s, hp_get, hp_set, uH_at, uH_ne, uH_upd, uH_swap, iZ_add, iZ_sub, iZ_mul, iZ_neg, iZ_lt, iZ_le, iZ_eq, iZ_div, iZ_of, ix_Z, gZ_map, gZ_mapI, gZ_map', le_0, le_s, sZ_map, sZ_len, bZ_0, bZ_inj, bZ_t, bZ_f, nr_i, nr_0, nr_1, nr_b, ft_i, ft_b, ft_0, ft_1, zl_0, zl_1, zl_99, mF_len, mg_0, mg_1, mg_2, mg_3, mg_4, mg_5, mg_6, mg_7, mg_8, mg_9, mg_10, mg_11, mg_12, mg_13, mg_14, mg_15, mg_16, mg_17, mg_18, mg_19, mg_20, mg_21, mg_22, mg_23, mg_24, mg_25, mg_26, mg_27, mg_28, mg_29, mg_30, mg_31, mg_32, mg_33, mg_34, mg_35, mg_36, mg_37, mg_38, ms_0, ms_1, ms_2, ms_13, ms_14, ms_15, ms_16, ms_21, ms_22, ms_23, ms_24, ms_28, ms_36, ms_37, ms_38, st_at, st_ne, st_st, st_swap, unH, hm, l0, l3, l6, l8, l9, l10, mm, m1, m2, b1, -List.filter_filter, -List.getElem?_map, -List.getD_eq_getElem?_getD]
/-- a pair is taken, both its places are led to their ends -/
theorem l113_16 (d : Nat) (hN : 53 ≤ N) (hm : w 27 = .inr (8, mF m)) (hW : w 45 = cI 0 S) (hS : SOK S) (h : BdOK S Bd ρ) (Lf Rg St En : List Int) (hl1 : Lf.length = 400) (hl2 : Rg.length = 400) (T : Int) (t0 : 0 < T) (t1 : T ≤ 400) (o1 : okp S (gZ Lf (T - 1))) (o2 : okp S (gZ Rg (T - 1))) (lv : xL) (hc : c1 lv) (l0 : x_lk lv 0 = some (.ref 30)) (l3 : x_lk lv 3 = some (.int (iZ T))) (p q : Int) (hp1 : p = ld S (bdf Bd) (sub ρ (tm S (gZ Lf (T - 1)).toNat)).length (gZ Lf (T - 1)).toNat) (hq1 : q = ld S (bdf Bd) (sub ρ (tm S (gZ Rg (T - 1)).toNat)).length (gZ Rg (T - 1)).toNat) (op : okp S p) (oq : okp S q) :
    ∃ lv', c1 lv' ∧ x_lk lv' 0 = some (.ref 30) ∧ x_lk lv' 3 = some (.int (iZ (T - 1))) ∧ x_lk lv' 4 = some (.int (iZ p)) ∧ x_lk lv' 5 = some (.int (iZ q)) ∧ x_lk lv' 6 = some (.int (iZ (gZ S p))) ∧ x_lk lv' 7 = some (.int (iZ (gZ S q))) ∧ ∀ res, Gx q_k113 (d + 3) 65 (lv', [], unH w N Bd Lf Rg St En) res → Gx q_k113 (d + 3) 16 (lv, [], unH w N Bd Lf Rg St En) res := by
  have hl := hS.1
  have m1 := m111 (d + 2) (w := unW w Bd Lf Rg St En) (m := m) (S := S) (N := N) hN (unW_m hm _ _ _ _ _) (unW_S hW _ _ _ _ _) (unW_B w _ _ _ _ _) hS h (gZ Lf (T - 1)) o1
  have m2 := m111 (d + 2) (w := unW w Bd Lf Rg St En) (m := m) (S := S) (N := N) hN (unW_m hm _ _ _ _ _) (unW_S hW _ _ _ _ _) (unW_B w _ _ _ _ _) hS h (gZ Rg (T - 1)) o2
  rw [← hp1] at m1
  rw [← hq1] at m2
  have p1 := okp_lt op
  have q1 := okp_lt oq
  have p0 := op.1
  have q0 := oq.1
  have C1 := c1_st (i := 3) (v := .int (iZ (T - 1))) rfl hc
  have C2 := c1_st (i := 4) (v := .int (iZ p)) rfl C1
  have C3 := c1_st (i := 5) (v := .int (iZ q)) rfl C2
  have C4 := c1_st (i := 6) (v := .int (iZ (gZ S p))) rfl C3
  have C5 := c1_st (i := 7) (v := .int (iZ (gZ S q))) rfl C4
  refine ⟨_, C5, by rw [lk_s C4, lk_s C3, lk_s C2, lk_s C1, lk_s hc]; exact l0, by rw [lk_s C4, lk_s C3, lk_s C2, lk_s C1, lk_s hc]; rfl, by rw [lk_s C4, lk_s C3, lk_s C2, lk_s C1]; rfl, by rw [lk_s C4, lk_s C3, lk_s C2]; rfl, by rw [lk_s C4, lk_s C3]; rfl, by rw [lk_s C4]; rfl, fun res k3 => Gx.run 80 (m1.and m2) (fun C mm => ?_) k3⟩
  obtain ⟨m1, m2⟩ := mm
  unfold unW at m1 m2
  have b0 : ¬ T ≤ 0 := by omega
  have b3 : -1 + T = T - 1 := by omega
  have b4 : T + -1 = T - 1 := by omega
  simp (disch := first | (refine c1_id ?_; assumption) | (refine c1_st rfl ?_; repeat (first | assumption | refine c1_st rfl ?_)) | omega) [nx_l, nx_r, nx_n, x_st, x_push, x_bin, x_div, x_un, x_dup, x_pop, x_dup2, x_goto, x_ifeq, x_ifne, x_iflt, x_ifge, x_ifgt, x_ifle, x_iceq, x_icne, x_iclt, x_icge, x_icgt, x_icle, x_ifnull, x_ifnonnull, x_ldi, x_lda, x_sti, x_sta, x_iinc, x_gf, x_pf, x_ald, x_ast, x_aln, x_len, x_cl_, x_cv, x_cs, x_rc, x_r0, x_isT, x_oi, x_rv, x_ri, x_ra, Value.category, t113_0, t113_1, t113_2, t113_3, t113_6, t113_7, t113_8, t113_9, t113_10, t113_13, t113_14, t113_15, t113_16, t113_17, t113_20, t113_23, t113_24, t113_25, t113_28, t113_29, t113_30, t113_33, t113_35, t113_36, t113_37, t113_40, t113_41, t113_42, t113_45, t113_47, t113_48, t113_51, t113_53, t113_54, t113_56, t113_57, t113_60, t113_62, t113_63, t113_65, t113_67, t113_69, t113_72, t113_74, t113_76, t113_79, t113_80, t113_82, t113_84, t113_87, t113_90, t113_91, t113_92, t113_93, t113_96, t113_98, t113_100, t113_101, t113_104, t113_106, t113_108, t113_111, t113_113, t113_115, t113_118, t113_119, t113_121, t113_123, t113_126, t113_129, t113_130, t113_131, t113_132, t113_135, t113_137, t113_139, t113_140, t113_143, t113_145, t113_147, t113_150, t113_151, t113_152, t113_154, t113_156, t113_159, t113_161, t113_162, t113_163, t113_165, t113_167, t113_168, t113_169, t113_171, t113_172, t113_174, t113_176, t113_178, t113_181, t113_184, t113_185, t113_188, t113_189, t113_191, t113_192, t113_193, t113_196, t113_197, t113_199, t113_200, t113_203, t113_204, t113_206, t113_209, t113_211, t113_212, t113_214, t113_217, t113_219, t113_222, t113_225, t113_228, t113_229, lk_s, hp_get, hp_set, uH_at, uH_ne, uH_upd, uH_swap, iZ_add, iZ_sub, iZ_mul, iZ_neg, iZ_lt, iZ_le, iZ_eq, iZ_div, iZ_of, ix_Z, gZ_map, gZ_mapI, gZ_map', le_0, le_s, sZ_map, sZ_len, bZ_0, bZ_inj, bZ_t, bZ_f, nr_i, nr_0, nr_1, nr_b, ft_i, ft_b, ft_0, ft_1, zl_0, zl_1, zl_99, mF_len, mg_0, mg_1, mg_2, mg_3, mg_4, mg_5, mg_6, mg_7, mg_8, mg_9, mg_10, mg_11, mg_12, mg_13, mg_14, mg_15, mg_16, mg_17, mg_18, mg_19, mg_20, mg_21, mg_22, mg_23, mg_24, mg_25, mg_26, mg_27, mg_28, mg_29, mg_30, mg_31, mg_32, mg_33, mg_34, mg_35, mg_36, mg_37, mg_38, ms_0, ms_1, ms_2, ms_13, ms_14, ms_15, ms_16, ms_21, ms_22, ms_23, ms_24, ms_28, ms_36, ms_37, ms_38, st_at, st_ne, st_st, st_swap, unH, hm, l0, l3, hW, m1, m2, b0, b3, b4, -List.filter_filter, -List.getElem?_map, -List.getD_eq_getElem?_getD]
end UN
