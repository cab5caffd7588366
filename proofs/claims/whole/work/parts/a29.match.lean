/-! the class: literals are matched -/
theorem f55_0 : x_fetch q_k55 0 = x_lda 1 1 := rfl
theorem t55_0 (C : xF) (s n : Nat) (z : xS) : x_to q_k55 C s (n + 1) 0 z = x_nx q_k55 C s n ((x_lda 1 1) C z) := x_to_at f55_0 C s n z
theorem f55_1 : x_fetch q_k55 1 = x_gf 4 4 2 := rfl
theorem t55_1 (C : xF) (s n : Nat) (z : xS) : x_to q_k55 C s (n + 1) 1 z = x_nx q_k55 C s n ((x_gf 4 4 2) C z) := x_to_at f55_1 C s n z
theorem f55_4 : x_fetch q_k55 4 = x_ldi 5 2 := rfl
theorem t55_4 (C : xF) (s n : Nat) (z : xS) : x_to q_k55 C s (n + 1) 4 z = x_nx q_k55 C s n ((x_ldi 5 2) C z) := x_to_at f55_4 C s n z
theorem f55_5 : x_fetch q_k55 5 = x_ald 6 1 := rfl
theorem t55_5 (C : xF) (s n : Nat) (z : xS) : x_to q_k55 C s (n + 1) 5 z = x_nx q_k55 C s n ((x_ald 6 1) C z) := x_to_at f55_5 C s n z
theorem f55_6 : x_fetch q_k55 6 = x_lda 7 3 := rfl
theorem t55_6 (C : xF) (s n : Nat) (z : xS) : x_to q_k55 C s (n + 1) 6 z = x_nx q_k55 C s n ((x_lda 7 3) C z) := x_to_at f55_6 C s n z
theorem f55_7 : x_fetch q_k55 7 = x_gf 10 4 2 := rfl
theorem t55_7 (C : xF) (s n : Nat) (z : xS) : x_to q_k55 C s (n + 1) 7 z = x_nx q_k55 C s n ((x_gf 10 4 2) C z) := x_to_at f55_7 C s n z
theorem f55_10 : x_fetch q_k55 10 = x_ldi 12 4 := rfl
theorem t55_10 (C : xF) (s n : Nat) (z : xS) : x_to q_k55 C s (n + 1) 10 z = x_nx q_k55 C s n ((x_ldi 12 4) C z) := x_to_at f55_10 C s n z
theorem f55_12 : x_fetch q_k55 12 = x_ald 13 1 := rfl
theorem t55_12 (C : xF) (s n : Nat) (z : xS) : x_to q_k55 C s (n + 1) 12 z = x_nx q_k55 C s n ((x_ald 13 1) C z) := x_to_at f55_12 C s n z
theorem f55_13 : x_fetch q_k55 13 = x_st (x_iceq 18 16) := rfl
theorem t55_13 (C : xF) (s n : Nat) (z : xS) : x_to q_k55 C s (n + 1) 13 z = x_nx q_k55 C s n ((x_st (x_iceq 18 16)) C z) := x_to_at f55_13 C s n z
theorem f55_16 : x_fetch q_k55 16 = x_st (x_push 17 (.int (0))) := rfl
theorem t55_16 (C : xF) (s n : Nat) (z : xS) : x_to q_k55 C s (n + 1) 16 z = x_nx q_k55 C s n ((x_st (x_push 17 (.int (0)))) C z) := x_to_at f55_16 C s n z
theorem f55_17 : x_fetch q_k55 17 = x_ri (.boolean) := rfl
theorem t55_17 (C : xF) (s n : Nat) (z : xS) : x_to q_k55 C s (n + 1) 17 z = x_nx q_k55 C s n ((x_ri (.boolean)) C z) := x_to_at f55_17 C s n z
theorem f55_18 : x_fetch q_k55 18 = x_lda 19 3 := rfl
theorem t55_18 (C : xF) (s n : Nat) (z : xS) : x_to q_k55 C s (n + 1) 18 z = x_nx q_k55 C s n ((x_lda 19 3) C z) := x_to_at f55_18 C s n z
theorem f55_19 : x_fetch q_k55 19 = x_ldi 21 4 := rfl
theorem t55_19 (C : xF) (s n : Nat) (z : xS) : x_to q_k55 C s (n + 1) 19 z = x_nx q_k55 C s n ((x_ldi 21 4) C z) := x_to_at f55_19 C s n z
theorem f55_21 : x_fetch q_k55 21 = x_cv 24 11 2 4 := rfl
theorem t55_21 (C : xF) (s n : Nat) (z : xS) : x_to q_k55 C s (n + 1) 21 z = x_nx q_k55 C s n ((x_cv 24 11 2 4) C z) := x_to_at f55_21 C s n z
theorem f55_24 : x_fetch q_k55 24 = x_sti 26 5 := rfl
theorem t55_24 (C : xF) (s n : Nat) (z : xS) : x_to q_k55 C s (n + 1) 24 z = x_nx q_k55 C s n ((x_sti 26 5) C z) := x_to_at f55_24 C s n z
theorem f55_26 : x_fetch q_k55 26 = x_lda 27 3 := rfl
theorem t55_26 (C : xF) (s n : Nat) (z : xS) : x_to q_k55 C s (n + 1) 26 z = x_nx q_k55 C s n ((x_lda 27 3) C z) := x_to_at f55_26 C s n z
theorem f55_27 : x_fetch q_k55 27 = x_gf 30 4 1 := rfl
theorem t55_27 (C : xF) (s n : Nat) (z : xS) : x_to q_k55 C s (n + 1) 27 z = x_nx q_k55 C s n ((x_gf 30 4 1) C z) := x_to_at f55_27 C s n z
theorem f55_30 : x_fetch q_k55 30 = x_ldi 32 4 := rfl
theorem t55_30 (C : xF) (s n : Nat) (z : xS) : x_to q_k55 C s (n + 1) 30 z = x_nx q_k55 C s n ((x_ldi 32 4) C z) := x_to_at f55_30 C s n z
theorem f55_32 : x_fetch q_k55 32 = x_ald 33 0 := rfl
theorem t55_32 (C : xF) (s n : Nat) (z : xS) : x_to q_k55 C s (n + 1) 32 z = x_nx q_k55 C s n ((x_ald 33 0) C z) := x_to_at f55_32 C s n z
theorem f55_33 : x_fetch q_k55 33 = x_sti 35 6 := rfl
theorem t55_33 (C : xF) (s n : Nat) (z : xS) : x_to q_k55 C s (n + 1) 33 z = x_nx q_k55 C s n ((x_sti 35 6) C z) := x_to_at f55_33 C s n z
theorem f55_35 : x_fetch q_k55 35 = x_lda 36 1 := rfl
theorem t55_35 (C : xF) (s n : Nat) (z : xS) : x_to q_k55 C s (n + 1) 35 z = x_nx q_k55 C s n ((x_lda 36 1) C z) := x_to_at f55_35 C s n z
theorem f55_36 : x_fetch q_k55 36 = x_ldi 37 2 := rfl
theorem t55_36 (C : xF) (s n : Nat) (z : xS) : x_to q_k55 C s (n + 1) 36 z = x_nx q_k55 C s n ((x_ldi 37 2) C z) := x_to_at f55_36 C s n z
theorem f55_37 : x_fetch q_k55 37 = x_cv 40 11 2 4 := rfl
theorem t55_37 (C : xF) (s n : Nat) (z : xS) : x_to q_k55 C s (n + 1) 37 z = x_nx q_k55 C s n ((x_cv 40 11 2 4) C z) := x_to_at f55_37 C s n z
theorem f55_40 : x_fetch q_k55 40 = x_sti 42 7 := rfl
theorem t55_40 (C : xF) (s n : Nat) (z : xS) : x_to q_k55 C s (n + 1) 40 z = x_nx q_k55 C s n ((x_sti 42 7) C z) := x_to_at f55_40 C s n z
theorem f55_42 : x_fetch q_k55 42 = x_ldi 44 7 := rfl
theorem t55_42 (C : xF) (s n : Nat) (z : xS) : x_to q_k55 C s (n + 1) 42 z = x_nx q_k55 C s n ((x_ldi 44 7) C z) := x_to_at f55_42 C s n z
theorem f55_44 : x_fetch q_k55 44 = x_lda 45 1 := rfl
theorem t55_44 (C : xF) (s n : Nat) (z : xS) : x_to q_k55 C s (n + 1) 44 z = x_nx q_k55 C s n ((x_lda 45 1) C z) := x_to_at f55_44 C s n z
theorem f55_45 : x_fetch q_k55 45 = x_gf 48 4 1 := rfl
theorem t55_45 (C : xF) (s n : Nat) (z : xS) : x_to q_k55 C s (n + 1) 45 z = x_nx q_k55 C s n ((x_gf 48 4 1) C z) := x_to_at f55_45 C s n z
theorem f55_48 : x_fetch q_k55 48 = x_ldi 49 2 := rfl
theorem t55_48 (C : xF) (s n : Nat) (z : xS) : x_to q_k55 C s (n + 1) 48 z = x_nx q_k55 C s n ((x_ldi 49 2) C z) := x_to_at f55_48 C s n z
theorem f55_49 : x_fetch q_k55 49 = x_ald 50 0 := rfl
theorem t55_49 (C : xF) (s n : Nat) (z : xS) : x_to q_k55 C s (n + 1) 49 z = x_nx q_k55 C s n ((x_ald 50 0) C z) := x_to_at f55_49 C s n z
theorem f55_50 : x_fetch q_k55 50 = x_st (x_icge 145 53) := rfl
theorem t55_50 (C : xF) (s n : Nat) (z : xS) : x_to q_k55 C s (n + 1) 50 z = x_nx q_k55 C s n ((x_st (x_icge 145 53)) C z) := x_to_at f55_50 C s n z
theorem f55_53 : x_fetch q_k55 53 = x_ldi 55 5 := rfl
theorem t55_53 (C : xF) (s n : Nat) (z : xS) : x_to q_k55 C s (n + 1) 53 z = x_nx q_k55 C s n ((x_ldi 55 5) C z) := x_to_at f55_53 C s n z
theorem f55_55 : x_fetch q_k55 55 = x_ldi 57 6 := rfl
theorem t55_55 (C : xF) (s n : Nat) (z : xS) : x_to q_k55 C s (n + 1) 55 z = x_nx q_k55 C s n ((x_ldi 57 6) C z) := x_to_at f55_55 C s n z
theorem f55_57 : x_fetch q_k55 57 = x_st (x_iclt 62 60) := rfl
theorem t55_57 (C : xF) (s n : Nat) (z : xS) : x_to q_k55 C s (n + 1) 57 z = x_nx q_k55 C s n ((x_st (x_iclt 62 60)) C z) := x_to_at f55_57 C s n z
theorem f55_60 : x_fetch q_k55 60 = x_st (x_push 61 (.int (0))) := rfl
theorem t55_60 (C : xF) (s n : Nat) (z : xS) : x_to q_k55 C s (n + 1) 60 z = x_nx q_k55 C s n ((x_st (x_push 61 (.int (0)))) C z) := x_to_at f55_60 C s n z
theorem f55_61 : x_fetch q_k55 61 = x_ri (.boolean) := rfl
theorem t55_61 (C : xF) (s n : Nat) (z : xS) : x_to q_k55 C s (n + 1) 61 z = x_nx q_k55 C s n ((x_ri (.boolean)) C z) := x_to_at f55_61 C s n z
theorem f55_62 : x_fetch q_k55 62 = x_lda 63 1 := rfl
theorem t55_62 (C : xF) (s n : Nat) (z : xS) : x_to q_k55 C s (n + 1) 62 z = x_nx q_k55 C s n ((x_lda 63 1) C z) := x_to_at f55_62 C s n z
theorem f55_63 : x_fetch q_k55 63 = x_gf 66 4 0 := rfl
theorem t55_63 (C : xF) (s n : Nat) (z : xS) : x_to q_k55 C s (n + 1) 63 z = x_nx q_k55 C s n ((x_gf 66 4 0) C z) := x_to_at f55_63 C s n z
theorem f55_66 : x_fetch q_k55 66 = x_ldi 68 7 := rfl
theorem t55_66 (C : xF) (s n : Nat) (z : xS) : x_to q_k55 C s (n + 1) 66 z = x_nx q_k55 C s n ((x_ldi 68 7) C z) := x_to_at f55_66 C s n z
theorem f55_68 : x_fetch q_k55 68 = x_ald 69 0 := rfl
theorem t55_68 (C : xF) (s n : Nat) (z : xS) : x_to q_k55 C s (n + 1) 68 z = x_nx q_k55 C s n ((x_ald 69 0) C z) := x_to_at f55_68 C s n z
theorem f55_69 : x_fetch q_k55 69 = x_sti 71 8 := rfl
theorem t55_69 (C : xF) (s n : Nat) (z : xS) : x_to q_k55 C s (n + 1) 69 z = x_nx q_k55 C s n ((x_sti 71 8) C z) := x_to_at f55_69 C s n z
theorem f55_71 : x_fetch q_k55 71 = x_ldi 73 5 := rfl
theorem t55_71 (C : xF) (s n : Nat) (z : xS) : x_to q_k55 C s (n + 1) 71 z = x_nx q_k55 C s n ((x_ldi 73 5) C z) := x_to_at f55_71 C s n z
theorem f55_73 : x_fetch q_k55 73 = x_st (x_push 74 (.int (1))) := rfl
theorem t55_73 (C : xF) (s n : Nat) (z : xS) : x_to q_k55 C s (n + 1) 73 z = x_nx q_k55 C s n ((x_st (x_push 74 (.int (1)))) C z) := x_to_at f55_73 C s n z
theorem f55_74 : x_fetch q_k55 74 = x_st (x_bin 75 (fun a b => a + b)) := rfl
theorem t55_74 (C : xF) (s n : Nat) (z : xS) : x_to q_k55 C s (n + 1) 74 z = x_nx q_k55 C s n ((x_st (x_bin 75 (fun a b => a + b))) C z) := x_to_at f55_74 C s n z
theorem f55_75 : x_fetch q_k55 75 = x_sti 77 9 := rfl
theorem t55_75 (C : xF) (s n : Nat) (z : xS) : x_to q_k55 C s (n + 1) 75 z = x_nx q_k55 C s n ((x_sti 77 9) C z) := x_to_at f55_75 C s n z
theorem f55_77 : x_fetch q_k55 77 = x_ldi 79 8 := rfl
theorem t55_77 (C : xF) (s n : Nat) (z : xS) : x_to q_k55 C s (n + 1) 77 z = x_nx q_k55 C s n ((x_ldi 79 8) C z) := x_to_at f55_77 C s n z
theorem f55_79 : x_fetch q_k55 79 = x_lda 80 3 := rfl
theorem t55_79 (C : xF) (s n : Nat) (z : xS) : x_to q_k55 C s (n + 1) 79 z = x_nx q_k55 C s n ((x_lda 80 3) C z) := x_to_at f55_79 C s n z
theorem f55_80 : x_fetch q_k55 80 = x_gf 83 4 0 := rfl
theorem t55_80 (C : xF) (s n : Nat) (z : xS) : x_to q_k55 C s (n + 1) 80 z = x_nx q_k55 C s n ((x_gf 83 4 0) C z) := x_to_at f55_80 C s n z
theorem f55_83 : x_fetch q_k55 83 = x_ldi 85 5 := rfl
theorem t55_83 (C : xF) (s n : Nat) (z : xS) : x_to q_k55 C s (n + 1) 83 z = x_nx q_k55 C s n ((x_ldi 85 5) C z) := x_to_at f55_83 C s n z
theorem f55_85 : x_fetch q_k55 85 = x_ald 86 0 := rfl
theorem t55_85 (C : xF) (s n : Nat) (z : xS) : x_to q_k55 C s (n + 1) 85 z = x_nx q_k55 C s n ((x_ald 86 0) C z) := x_to_at f55_85 C s n z
theorem f55_86 : x_fetch q_k55 86 = x_st (x_icne 93 89) := rfl
theorem t55_86 (C : xF) (s n : Nat) (z : xS) : x_to q_k55 C s (n + 1) 86 z = x_nx q_k55 C s n ((x_st (x_icne 93 89)) C z) := x_to_at f55_86 C s n z
theorem f55_89 : x_fetch q_k55 89 = x_st (x_push 90 (.int (1))) := rfl
theorem t55_89 (C : xF) (s n : Nat) (z : xS) : x_to q_k55 C s (n + 1) 89 z = x_nx q_k55 C s n ((x_st (x_push 90 (.int (1)))) C z) := x_to_at f55_89 C s n z
theorem f55_90 : x_fetch q_k55 90 = x_st (x_goto 94) := rfl
theorem t55_90 (C : xF) (s n : Nat) (z : xS) : x_to q_k55 C s (n + 1) 90 z = x_nx q_k55 C s n ((x_st (x_goto 94)) C z) := x_to_at f55_90 C s n z
theorem f55_93 : x_fetch q_k55 93 = x_st (x_push 94 (.int (0))) := rfl
theorem t55_93 (C : xF) (s n : Nat) (z : xS) : x_to q_k55 C s (n + 1) 93 z = x_nx q_k55 C s n ((x_st (x_push 94 (.int (0)))) C z) := x_to_at f55_93 C s n z
theorem f55_94 : x_fetch q_k55 94 = x_sti 96 10 := rfl
theorem t55_94 (C : xF) (s n : Nat) (z : xS) : x_to q_k55 C s (n + 1) 94 z = x_nx q_k55 C s n ((x_sti 96 10) C z) := x_to_at f55_94 C s n z
theorem f55_96 : x_fetch q_k55 96 = x_ldi 98 8 := rfl
theorem t55_96 (C : xF) (s n : Nat) (z : xS) : x_to q_k55 C s (n + 1) 96 z = x_nx q_k55 C s n ((x_ldi 98 8) C z) := x_to_at f55_96 C s n z
theorem f55_98 : x_fetch q_k55 98 = x_cl_ 101 2 1 := rfl
theorem t55_98 (C : xF) (s n : Nat) (z : xS) : x_to q_k55 C s (n + 1) 98 z = x_nx q_k55 C s n ((x_cl_ 101 2 1) C z) := x_to_at f55_98 C s n z
theorem f55_101 : x_fetch q_k55 101 = x_st (x_ifeq 128 104) := rfl
theorem t55_101 (C : xF) (s n : Nat) (z : xS) : x_to q_k55 C s (n + 1) 101 z = x_nx q_k55 C s n ((x_st (x_ifeq 128 104)) C z) := x_to_at f55_101 C s n z
theorem f55_104 : x_fetch q_k55 104 = x_lda 105 3 := rfl
theorem t55_104 (C : xF) (s n : Nat) (z : xS) : x_to q_k55 C s (n + 1) 104 z = x_nx q_k55 C s n ((x_lda 105 3) C z) := x_to_at f55_104 C s n z
theorem f55_105 : x_fetch q_k55 105 = x_ldi 107 5 := rfl
theorem t55_105 (C : xF) (s n : Nat) (z : xS) : x_to q_k55 C s (n + 1) 105 z = x_nx q_k55 C s n ((x_ldi 107 5) C z) := x_to_at f55_105 C s n z
theorem f55_107 : x_fetch q_k55 107 = x_cv 110 20 2 4 := rfl
theorem t55_107 (C : xF) (s n : Nat) (z : xS) : x_to q_k55 C s (n + 1) 107 z = x_nx q_k55 C s n ((x_cv 110 20 2 4) C z) := x_to_at f55_107 C s n z
theorem f55_110 : x_fetch q_k55 110 = x_sti 112 9 := rfl
theorem t55_110 (C : xF) (s n : Nat) (z : xS) : x_to q_k55 C s (n + 1) 110 z = x_nx q_k55 C s n ((x_sti 112 9) C z) := x_to_at f55_110 C s n z
theorem f55_112 : x_fetch q_k55 112 = x_lda 113 0 := rfl
theorem t55_112 (C : xF) (s n : Nat) (z : xS) : x_to q_k55 C s (n + 1) 112 z = x_nx q_k55 C s n ((x_lda 113 0) C z) := x_to_at f55_112 C s n z
theorem f55_113 : x_fetch q_k55 113 = x_ldi 115 8 := rfl
theorem t55_113 (C : xF) (s n : Nat) (z : xS) : x_to q_k55 C s (n + 1) 113 z = x_nx q_k55 C s n ((x_ldi 115 8) C z) := x_to_at f55_113 C s n z
theorem f55_115 : x_fetch q_k55 115 = x_cl_ 118 3 1 := rfl
theorem t55_115 (C : xF) (s n : Nat) (z : xS) : x_to q_k55 C s (n + 1) 115 z = x_nx q_k55 C s n ((x_cl_ 118 3 1) C z) := x_to_at f55_115 C s n z
theorem f55_118 : x_fetch q_k55 118 = x_lda 119 3 := rfl
theorem t55_118 (C : xF) (s n : Nat) (z : xS) : x_to q_k55 C s (n + 1) 118 z = x_nx q_k55 C s n ((x_lda 119 3) C z) := x_to_at f55_118 C s n z
theorem f55_119 : x_fetch q_k55 119 = x_ldi 121 5 := rfl
theorem t55_119 (C : xF) (s n : Nat) (z : xS) : x_to q_k55 C s (n + 1) 119 z = x_nx q_k55 C s n ((x_ldi 121 5) C z) := x_to_at f55_119 C s n z
theorem f55_121 : x_fetch q_k55 121 = x_ldi 123 9 := rfl
theorem t55_121 (C : xF) (s n : Nat) (z : xS) : x_to q_k55 C s (n + 1) 121 z = x_nx q_k55 C s n ((x_ldi 123 9) C z) := x_to_at f55_121 C s n z
theorem f55_123 : x_fetch q_k55 123 = x_cv 126 56 5 6 := rfl
theorem t55_123 (C : xF) (s n : Nat) (z : xS) : x_to q_k55 C s (n + 1) 123 z = x_nx q_k55 C s n ((x_cv 126 56 5 6) C z) := x_to_at f55_123 C s n z
theorem f55_126 : x_fetch q_k55 126 = x_sti 128 10 := rfl
theorem t55_126 (C : xF) (s n : Nat) (z : xS) : x_to q_k55 C s (n + 1) 126 z = x_nx q_k55 C s n ((x_sti 128 10) C z) := x_to_at f55_126 C s n z
theorem f55_128 : x_fetch q_k55 128 = x_ldi 130 10 := rfl
theorem t55_128 (C : xF) (s n : Nat) (z : xS) : x_to q_k55 C s (n + 1) 128 z = x_nx q_k55 C s n ((x_ldi 130 10) C z) := x_to_at f55_128 C s n z
theorem f55_130 : x_fetch q_k55 130 = x_st (x_ifne 135 133) := rfl
theorem t55_130 (C : xF) (s n : Nat) (z : xS) : x_to q_k55 C s (n + 1) 130 z = x_nx q_k55 C s n ((x_st (x_ifne 135 133)) C z) := x_to_at f55_130 C s n z
theorem f55_133 : x_fetch q_k55 133 = x_st (x_push 134 (.int (0))) := rfl
theorem t55_133 (C : xF) (s n : Nat) (z : xS) : x_to q_k55 C s (n + 1) 133 z = x_nx q_k55 C s n ((x_st (x_push 134 (.int (0)))) C z) := x_to_at f55_133 C s n z
theorem f55_134 : x_fetch q_k55 134 = x_ri (.boolean) := rfl
theorem t55_134 (C : xF) (s n : Nat) (z : xS) : x_to q_k55 C s (n + 1) 134 z = x_nx q_k55 C s n ((x_ri (.boolean)) C z) := x_to_at f55_134 C s n z
theorem f55_135 : x_fetch q_k55 135 = x_ldi 137 9 := rfl
theorem t55_135 (C : xF) (s n : Nat) (z : xS) : x_to q_k55 C s (n + 1) 135 z = x_nx q_k55 C s n ((x_ldi 137 9) C z) := x_to_at f55_135 C s n z
theorem f55_137 : x_fetch q_k55 137 = x_sti 139 5 := rfl
theorem t55_137 (C : xF) (s n : Nat) (z : xS) : x_to q_k55 C s (n + 1) 137 z = x_nx q_k55 C s n ((x_sti 139 5) C z) := x_to_at f55_137 C s n z
theorem f55_139 : x_fetch q_k55 139 = x_iinc 142 7 (1) := rfl
theorem t55_139 (C : xF) (s n : Nat) (z : xS) : x_to q_k55 C s (n + 1) 139 z = x_nx q_k55 C s n ((x_iinc 142 7 (1)) C z) := x_to_at f55_139 C s n z
theorem f55_142 : x_fetch q_k55 142 = x_st (x_goto 42) := rfl
theorem t55_142 (C : xF) (s n : Nat) (z : xS) : x_to q_k55 C s (n + 1) 142 z = x_nx q_k55 C s n ((x_st (x_goto 42)) C z) := x_to_at f55_142 C s n z
theorem f55_145 : x_fetch q_k55 145 = x_ldi 147 5 := rfl
theorem t55_145 (C : xF) (s n : Nat) (z : xS) : x_to q_k55 C s (n + 1) 145 z = x_nx q_k55 C s n ((x_ldi 147 5) C z) := x_to_at f55_145 C s n z
theorem f55_147 : x_fetch q_k55 147 = x_ldi 149 6 := rfl
theorem t55_147 (C : xF) (s n : Nat) (z : xS) : x_to q_k55 C s (n + 1) 147 z = x_nx q_k55 C s n ((x_ldi 149 6) C z) := x_to_at f55_147 C s n z
theorem f55_149 : x_fetch q_k55 149 = x_st (x_icne 156 152) := rfl
theorem t55_149 (C : xF) (s n : Nat) (z : xS) : x_to q_k55 C s (n + 1) 149 z = x_nx q_k55 C s n ((x_st (x_icne 156 152)) C z) := x_to_at f55_149 C s n z
theorem f55_152 : x_fetch q_k55 152 = x_st (x_push 153 (.int (1))) := rfl
theorem t55_152 (C : xF) (s n : Nat) (z : xS) : x_to q_k55 C s (n + 1) 152 z = x_nx q_k55 C s n ((x_st (x_push 153 (.int (1)))) C z) := x_to_at f55_152 C s n z
theorem f55_153 : x_fetch q_k55 153 = x_st (x_goto 157) := rfl
theorem t55_153 (C : xF) (s n : Nat) (z : xS) : x_to q_k55 C s (n + 1) 153 z = x_nx q_k55 C s n ((x_st (x_goto 157)) C z) := x_to_at f55_153 C s n z
theorem f55_156 : x_fetch q_k55 156 = x_st (x_push 157 (.int (0))) := rfl
theorem t55_156 (C : xF) (s n : Nat) (z : xS) : x_to q_k55 C s (n + 1) 156 z = x_nx q_k55 C s n ((x_st (x_push 157 (.int (0)))) C z) := x_to_at f55_156 C s n z
theorem f55_157 : x_fetch q_k55 157 = x_ri (.boolean) := rfl
theorem t55_157 (C : xF) (s n : Nat) (z : xS) : x_to q_k55 C s (n + 1) 157 z = x_nx q_k55 C s n ((x_ri (.boolean)) C z) := x_to_at f55_157 C s n z
def O55 (o : Option (Int → List Int)) (ok : Bool) (b' : Int → List Int) : Prop := match o with
  | none => ok = false
  | some b'' => ok = true ∧ b' = b''
def lv55 (lv : xL) (a : Nat) (k c at_ en pl : Int) : Prop := c1 lv ∧ x_lk lv 0 = some (.ref 27) ∧ x_lk lv 1 = some (.ref (a + 3)) ∧ x_lk lv 2 = some (.int (iZ k)) ∧ x_lk lv 3 = some (.ref 10) ∧ x_lk lv 4 = some (.int (iZ c)) ∧ x_lk lv 5 = some (.int (iZ at_)) ∧ x_lk lv 6 = some (.int (iZ en)) ∧ x_lk lv 7 = some (.int (iZ pl))
theorem lv55.st {lv : xL} {a : Nat} {k c at_ en pl : Int} (h : lv55 lv a k c at_ en pl) {q : Nat} {v : Value} (hq : 7 < q) (hv : v.category = 1) : lv55 ((q, v) :: lv.filter (x_keep q)) a k c at_ en pl := by
  obtain ⟨h1, h2, h3, h4, h5, h6, h7, h8, h9⟩ := h
  refine ⟨c1_st hv h1, ?_, ?_, ?_, ?_, ?_, ?_, ?_, ?_⟩ <;> rw [lk_s h1, if_neg (by omega)] <;> assumption
section MB
variable {N a : Nat} {D E : List (Int × List Int)} {SG EG BG : List Int} {oG : Int}
theorem k24 {w : Nat → xC} {vs : List Int} {b : Int → List Int} (h : MW w E vs b) : w 24 = MO vs.length := by
  obtain ⟨_, _, h1, _⟩ := h
  exact h1
/-- from the head of the loop to where it asks for a variable -/
theorem P55 (d : Nat) (hN : 53 ≤ N) {w : Nat → xC} (hG : FM w N a SG EG BG D oG) {S En B : List Int} {o : Int} (f1 : fo w 7 S En B E.length (flt E).length o) (f2 : fN N 7 S En B) (k c at_ en pl y y' eG : Int) (k0 : 0 ≤ k) (k1 : k < EG.length) (eg : gZ EG k = eG) (pe : pl < eG) (p0 : 0 ≤ pl) (p1 : pl < SG.length) (e9 : eG < 10000) (ae : at_ < en) (a0 : 0 ≤ at_) (a1 : at_ < S.length) (en9 : en < 10000) (gy : gZ SG pl = y) (gy' : gZ S at_ = y') (y0 : 0 ≤ y ∧ y < 1000) (y0' : 0 ≤ y' ∧ y' < 1000) (lv : xL) (hl : lv55 lv a k c at_ en pl) :
    ∃ lv', lv55 lv' a k c at_ en pl ∧ x_lk lv' 8 = some (.int (iZ y)) ∧ x_lk lv' 9 = some (.int (iZ (at_ + 1))) ∧ x_lk lv' 10 = some (.int (iZ (bZ (decide (y = y'))))) ∧ ∀ res, Gx q_k55 (d + 3) 96 (lv', [], hp w N) res → Gx q_k55 (d + 3) 42 (lv, [], hp w N) res := by
  have L8 := hl.st (q := 8) (v := .int (iZ y)) (by omega) rfl
  have L9 := L8.st (q := 9) (v := .int (iZ (at_ + 1))) (by omega) rfl
  have L10 := L9.st (q := 10) (v := .int (iZ (bZ (decide (y = y'))))) (by omega) rfl
  obtain ⟨hc, l0, l1, l2, l3, l4, l5, l6, l7⟩ := hl
  refine ⟨_, L10, by rw [lk_s L9.1, lk_s L8.1, lk_s hc]; rfl, by rw [lk_s L9.1, lk_s L8.1]; rfl, by rw [lk_s L9.1]; rfl, fun res hres => ?_⟩
  obtain ⟨⟨g1, g2, g3, g4⟩, g5, _⟩ := hG
  obtain ⟨t1, t2, t3, t4⟩ := f1
  have t2' : w 8 = cI 0 S := t2
  have n1 := g5.1
  have n2 := g5.2.1
  have n3 := g5.2.2.1
  have n4 := f2.2.1
  have b1 : ¬ eG ≤ pl := by omega
  refine Gx.run 80 Cs.tt (fun X _ => ?_) hres
  by_cases hy : y = y'
  · rw [decide_eq_true hy, bZ_t]
    subst hy
    simp (disch := first | (refine c1_id ?_; assumption) | (refine c1_st rfl ?_; repeat (first | assumption | refine c1_st rfl ?_)) | omega) [nx_l, nx_r, nx_n, x_st, x_push, x_bin, x_div, x_un, x_dup, x_pop, x_dup2, x_goto, x_ifeq, x_ifne, x_iflt, x_ifge, x_ifgt, x_ifle, x_iceq, x_icne, x_iclt, x_icge, x_icgt, x_icle, x_ifnull, x_ifnonnull, x_ldi, x_lda, x_sti, x_sta, x_iinc, x_gf, x_pf, x_ald, x_ast, x_aln, x_len, x_cl_, x_cv, x_cs, x_rc, x_r0, x_isT, x_oi, x_rv, x_ri, x_ra, Value.category, t55_0, t55_1, t55_4, t55_5, t55_6, t55_7, t55_10, t55_12, t55_13, t55_16, t55_17, t55_18, t55_19, t55_21, t55_24, t55_26, t55_27, t55_30, t55_32, t55_33, t55_35, t55_36, t55_37, t55_40, t55_42, t55_44, t55_45, t55_48, t55_49, t55_50, t55_53, t55_55, t55_57, t55_60, t55_61, t55_62, t55_63, t55_66, t55_68, t55_69, t55_71, t55_73, t55_74, t55_75, t55_77, t55_79, t55_80, t55_83, t55_85, t55_86, t55_89, t55_90, t55_93, t55_94, t55_96, t55_98, t55_101, t55_104, t55_105, t55_107, t55_110, t55_112, t55_113, t55_115, t55_118, t55_119, t55_121, t55_123, t55_126, t55_128, t55_130, t55_133, t55_134, t55_135, t55_137, t55_139, t55_142, t55_145, t55_147, t55_149, t55_152, t55_153, t55_156, t55_157, lk_s, hp_get, hp_set, uH_at, uH_ne, uH_upd, uH_swap, iZ_add, iZ_sub, iZ_mul, iZ_neg, iZ_lt, iZ_le, iZ_eq, iZ_div, iZ_of, ix_Z, gZ_map, gZ_mapI, gZ_map', le_0, le_s, sZ_map, sZ_len, bZ_0, bZ_inj, bZ_t, bZ_f, nr_i, nr_0, nr_1, nr_b, ft_i, ft_b, ft_0, ft_1, zl_0, zl_1, l0, l1, l2, l3, l4, l5, l6, l7, g1, g2, g3, t1, t2', eg, b1, ae, gy, gy', -List.filter_filter, -List.getElem?_map, -List.getD_eq_getElem?_getD]
  · rw [decide_eq_false hy, bZ_f]
    simp (disch := first | (refine c1_id ?_; assumption) | (refine c1_st rfl ?_; repeat (first | assumption | refine c1_st rfl ?_)) | omega) [nx_l, nx_r, nx_n, x_st, x_push, x_bin, x_div, x_un, x_dup, x_pop, x_dup2, x_goto, x_ifeq, x_ifne, x_iflt, x_ifge, x_ifgt, x_ifle, x_iceq, x_icne, x_iclt, x_icge, x_icgt, x_icle, x_ifnull, x_ifnonnull, x_ldi, x_lda, x_sti, x_sta, x_iinc, x_gf, x_pf, x_ald, x_ast, x_aln, x_len, x_cl_, x_cv, x_cs, x_rc, x_r0, x_isT, x_oi, x_rv, x_ri, x_ra, Value.category, t55_0, t55_1, t55_4, t55_5, t55_6, t55_7, t55_10, t55_12, t55_13, t55_16, t55_17, t55_18, t55_19, t55_21, t55_24, t55_26, t55_27, t55_30, t55_32, t55_33, t55_35, t55_36, t55_37, t55_40, t55_42, t55_44, t55_45, t55_48, t55_49, t55_50, t55_53, t55_55, t55_57, t55_60, t55_61, t55_62, t55_63, t55_66, t55_68, t55_69, t55_71, t55_73, t55_74, t55_75, t55_77, t55_79, t55_80, t55_83, t55_85, t55_86, t55_89, t55_90, t55_93, t55_94, t55_96, t55_98, t55_101, t55_104, t55_105, t55_107, t55_110, t55_112, t55_113, t55_115, t55_118, t55_119, t55_121, t55_123, t55_126, t55_128, t55_130, t55_133, t55_134, t55_135, t55_137, t55_139, t55_142, t55_145, t55_147, t55_149, t55_152, t55_153, t55_156, t55_157, lk_s, hp_get, hp_set, uH_at, uH_ne, uH_upd, uH_swap, iZ_add, iZ_sub, iZ_mul, iZ_neg, iZ_lt, iZ_le, iZ_eq, iZ_div, iZ_of, ix_Z, gZ_map, gZ_mapI, gZ_map', le_0, le_s, sZ_map, sZ_len, bZ_0, bZ_inj, bZ_t, bZ_f, nr_i, nr_0, nr_1, nr_b, ft_i, ft_b, ft_0, ft_1, zl_0, zl_1, l0, l1, l2, l3, l4, l5, l6, l7, g1, g2, g3, t1, t2', eg, b1, ae, gy, gy', hy, -List.filter_filter, -List.getElem?_map, -List.getD_eq_getElem?_getD]
theorem E55 (d : Nat) {w : Nat → xC} {k c at_ en pl nx : Int} (lv : xL) (hl : lv55 lv a k c at_ en pl) (l9 : x_lk lv 9 = some (.int (iZ nx))) (l10 : x_lk lv 10 = some (.int (iZ 1))) : ∃ lv', lv55 lv' a k c nx en (pl + 1) ∧ ∀ res, Gx q_k55 (d + 3) 42 (lv', [], hp w N) res → Gx q_k55 (d + 3) 128 (lv, [], hp w N) res := by
  obtain ⟨hc, l0, l1, l2, l3, l4, l5, l6, l7⟩ := hl
  have C5 := c1_st (i := 5) (v := .int (iZ nx)) rfl hc
  have C7 := c1_st (i := 7) (v := .int (iZ (pl + 1))) rfl C5
  refine ⟨(7, .int (iZ (pl + 1))) :: List.filter (x_keep 7) ((5, .int (iZ nx)) :: lv.filter (x_keep 5)), ⟨C7, ?_, ?_, ?_, ?_, ?_, ?_, ?_, ?_⟩, fun res hres => ?_⟩
  · rw [lk_s C5, lk_s hc]; exact l0
  · rw [lk_s C5, lk_s hc]; exact l1
  · rw [lk_s C5, lk_s hc]; exact l2
  · rw [lk_s C5, lk_s hc]; exact l3
  · rw [lk_s C5, lk_s hc]; exact l4
  · rw [lk_s C5, lk_s hc]; rfl
  · rw [lk_s C5, lk_s hc]; exact l6
  · rw [lk_s C5]; rfl
  · refine Gx.run 20 Cs.tt (fun X _ => ?_) (Gx.run (pc := 142) (z := ((7, .int (iZ (pl + 1))) :: List.filter (x_keep 7) ((5, .int (iZ nx)) :: lv.filter (x_keep 5)), [], hp w N)) 5 Cs.tt (fun X _ => ?_) hres)
    · simp (disch := first | (refine c1_id ?_; assumption) | (refine c1_st rfl ?_; repeat (first | assumption | refine c1_st rfl ?_)) | omega) [nx_l, nx_r, nx_n, x_st, x_push, x_bin, x_div, x_un, x_dup, x_pop, x_dup2, x_goto, x_ifeq, x_ifne, x_iflt, x_ifge, x_ifgt, x_ifle, x_iceq, x_icne, x_iclt, x_icge, x_icgt, x_icle, x_ifnull, x_ifnonnull, x_ldi, x_lda, x_sti, x_sta, x_iinc, x_gf, x_pf, x_ald, x_ast, x_aln, x_len, x_cl_, x_cv, x_cs, x_rc, x_r0, x_isT, x_oi, x_rv, x_ri, x_ra, Value.category, t55_0, t55_1, t55_4, t55_5, t55_6, t55_7, t55_10, t55_12, t55_13, t55_16, t55_17, t55_18, t55_19, t55_21, t55_24, t55_26, t55_27, t55_30, t55_32, t55_33, t55_35, t55_36, t55_37, t55_40, t55_42, t55_44, t55_45, t55_48, t55_49, t55_50, t55_53, t55_55, t55_57, t55_60, t55_61, t55_62, t55_63, t55_66, t55_68, t55_69, t55_71, t55_73, t55_74, t55_75, t55_77, t55_79, t55_80, t55_83, t55_85, t55_86, t55_89, t55_90, t55_93, t55_94, t55_96, t55_98, t55_101, t55_104, t55_105, t55_107, t55_110, t55_112, t55_113, t55_115, t55_118, t55_119, t55_121, t55_123, t55_126, t55_128, t55_130, t55_133, t55_134, t55_135, t55_137, t55_139, t55_142, t55_145, t55_147, t55_149, t55_152, t55_153, t55_156, t55_157, lk_s, hp_get, hp_set, uH_at, uH_ne, uH_upd, uH_swap, iZ_add, iZ_sub, iZ_mul, iZ_neg, iZ_lt, iZ_le, iZ_eq, iZ_div, iZ_of, ix_Z, gZ_map, gZ_mapI, gZ_map', le_0, le_s, sZ_map, sZ_len, bZ_0, bZ_inj, bZ_t, bZ_f, nr_i, nr_0, nr_1, nr_b, ft_i, ft_b, ft_0, ft_1, zl_0, zl_1, l7, l9, l10, -List.filter_filter, -List.getElem?_map, -List.getD_eq_getElem?_getD]
    · simp (disch := first | (refine c1_id ?_; assumption) | (refine c1_st rfl ?_; repeat (first | assumption | refine c1_st rfl ?_)) | omega) [nx_l, nx_r, nx_n, x_st, x_push, x_bin, x_div, x_un, x_dup, x_pop, x_dup2, x_goto, x_ifeq, x_ifne, x_iflt, x_ifge, x_ifgt, x_ifle, x_iceq, x_icne, x_iclt, x_icge, x_icgt, x_icle, x_ifnull, x_ifnonnull, x_ldi, x_lda, x_sti, x_sta, x_iinc, x_gf, x_pf, x_ald, x_ast, x_aln, x_len, x_cl_, x_cv, x_cs, x_rc, x_r0, x_isT, x_oi, x_rv, x_ri, x_ra, Value.category, t55_0, t55_1, t55_4, t55_5, t55_6, t55_7, t55_10, t55_12, t55_13, t55_16, t55_17, t55_18, t55_19, t55_21, t55_24, t55_26, t55_27, t55_30, t55_32, t55_33, t55_35, t55_36, t55_37, t55_40, t55_42, t55_44, t55_45, t55_48, t55_49, t55_50, t55_53, t55_55, t55_57, t55_60, t55_61, t55_62, t55_63, t55_66, t55_68, t55_69, t55_71, t55_73, t55_74, t55_75, t55_77, t55_79, t55_80, t55_83, t55_85, t55_86, t55_89, t55_90, t55_93, t55_94, t55_96, t55_98, t55_101, t55_104, t55_105, t55_107, t55_110, t55_112, t55_113, t55_115, t55_118, t55_119, t55_121, t55_123, t55_126, t55_128, t55_130, t55_133, t55_134, t55_135, t55_137, t55_139, t55_142, t55_145, t55_147, t55_149, t55_152, t55_153, t55_156, t55_157, lk_s, hp_get, hp_set, uH_at, uH_ne, uH_upd, uH_swap, iZ_add, iZ_sub, iZ_mul, iZ_neg, iZ_lt, iZ_le, iZ_eq, iZ_div, iZ_of, ix_Z, gZ_map, gZ_mapI, gZ_map', le_0, le_s, sZ_map, sZ_len, bZ_0, bZ_inj, bZ_t, bZ_f, nr_i, nr_0, nr_1, nr_b, ft_i, ft_b, ft_0, ft_1, zl_0, zl_1, -List.filter_filter, -List.getElem?_map, -List.getD_eq_getElem?_getD]
theorem F55 (d : Nat) {w : Nat → xC} (lv : xL) (l10 : x_lk lv 10 = some (.int (iZ 0))) : Gx q_k55 (d + 3) 128 (lv, [], hp w N) (some (.int (iZ 0)), hp w N) := by
  refine Gx.fin 20 Cs.tt (fun X _ => ?_)
  simp (disch := first | (refine c1_id ?_; assumption) | (refine c1_st rfl ?_; repeat (first | assumption | refine c1_st rfl ?_)) | omega) [nx_l, nx_r, nx_n, x_st, x_push, x_bin, x_div, x_un, x_dup, x_pop, x_dup2, x_goto, x_ifeq, x_ifne, x_iflt, x_ifge, x_ifgt, x_ifle, x_iceq, x_icne, x_iclt, x_icge, x_icgt, x_icle, x_ifnull, x_ifnonnull, x_ldi, x_lda, x_sti, x_sta, x_iinc, x_gf, x_pf, x_ald, x_ast, x_aln, x_len, x_cl_, x_cv, x_cs, x_rc, x_r0, x_isT, x_oi, x_rv, x_ri, x_ra, Value.category, t55_0, t55_1, t55_4, t55_5, t55_6, t55_7, t55_10, t55_12, t55_13, t55_16, t55_17, t55_18, t55_19, t55_21, t55_24, t55_26, t55_27, t55_30, t55_32, t55_33, t55_35, t55_36, t55_37, t55_40, t55_42, t55_44, t55_45, t55_48, t55_49, t55_50, t55_53, t55_55, t55_57, t55_60, t55_61, t55_62, t55_63, t55_66, t55_68, t55_69, t55_71, t55_73, t55_74, t55_75, t55_77, t55_79, t55_80, t55_83, t55_85, t55_86, t55_89, t55_90, t55_93, t55_94, t55_96, t55_98, t55_101, t55_104, t55_105, t55_107, t55_110, t55_112, t55_113, t55_115, t55_118, t55_119, t55_121, t55_123, t55_126, t55_128, t55_130, t55_133, t55_134, t55_135, t55_137, t55_139, t55_142, t55_145, t55_147, t55_149, t55_152, t55_153, t55_156, t55_157, lk_s, hp_get, hp_set, uH_at, uH_ne, uH_upd, uH_swap, iZ_add, iZ_sub, iZ_mul, iZ_neg, iZ_lt, iZ_le, iZ_eq, iZ_div, iZ_of, ix_Z, gZ_map, gZ_mapI, gZ_map', le_0, le_s, sZ_map, sZ_len, bZ_0, bZ_inj, bZ_t, bZ_f, nr_i, nr_0, nr_1, nr_b, ft_i, ft_b, ft_0, ft_1, zl_0, zl_1, l10, -List.filter_filter, -List.getElem?_map, -List.getD_eq_getElem?_getD]
theorem Ts_zero {q : List Int} (h : Ts 0 q) : q = [] := by
  cases q with
  | nil => rfl
  | cons s t =>
    obtain ⟨m, e, _⟩ := Ts_cons h
    cases e
set_option maxHeartbeats 1000000 in
theorem l55 (d : Nat) (hN : 53 ≤ N) (ha : 53 ≤ a) (k c : Nat) (hk : k < D.length) (hcE : c < E.length) (gE : gC E) :
    ∀ (p : List Int) (n i j : Nat) (q vs : List Int) (b : Int → List Int) (w : Nat → xC) (lv : xL), (lC D k).2.drop i = p → i + p.length = (lC D k).2.length → (lC E c).2.drop j = q → j + q.length = (lC E c).2.length → Ts n p → Ts n q → FM w N a SG EG BG D oG → LA w 7 E → MW w E vs b → lv55 lv a k c ((stC E c + j : Nat) : Int) (stC E (c + 1) : Nat) ((stC D k + i : Nat) : Int) →
    ∃ (w' : Nat → xC) (ex : List Int) (b' : Int → List Int) (ok : Bool), Fr ksMa w w' ∧ MW w' E (vs ++ ex) b' ∧ (∀ u ∈ vs, b' u = b u) ∧ O55 (mtT p q b) ok b' ∧ Gx q_k55 (d + 3) 42 (lv, [], hp w N) (some (.int (iZ (bZ ok))), hp w' N)
  | [], n, i, j, q, vs, b, w, lv, h1, h2, h3, h4, T1, T2, hG, hL, hM, hl => by
    rw [Ts_nil] at T1
    subst T1
    have eq := Ts_zero T2
    subst eq
    simp only [List.length_nil] at h2 h4
    refine ⟨w, [], b, true, Fr.rf _ _, by rw [List.append_nil]; exact hM, fun _ _ => rfl, ⟨rfl, rfl⟩, ?_⟩
    rw [bZ_t]
    obtain ⟨m1, m2, m3, m4, m5, m6, m7⟩ := hG
    have sk := stC_succ hk
    have ek := m3.2.1 k hk
    have sc := stC_succ hcE
    have f9 := m4.2.1
    have f8 := gE.2.1
    have mk := stC_mono (C := D) (show k + 1 ≤ D.length from hk)
    have mc := stC_mono (C := E) (show c + 1 ≤ E.length from hcE)
    rw [stC_all] at mk mc
    obtain ⟨g1, g2, g3, g4⟩ := m1
    have n1 := m2.1
    have n3 := m2.2.2.1
    have e1 : stC E c + j = stC E (c + 1) := by omega
    have e2 : stC D k + i = stC D (k + 1) := by omega
    rw [e1, e2] at hl
    obtain ⟨hc, l0, l1, l2, l3, l4, l5, l6, l7⟩ := hl
    obtain ⟨x, hx⟩ : ∃ x : Int, x = (stC E (c + 1) : Int) := ⟨_, rfl⟩
    obtain ⟨y, hy⟩ : ∃ y : Int, y = (stC D (k + 1) : Int) := ⟨_, rfl⟩
    obtain ⟨kk, hkk⟩ : ∃ kk : Int, kk = (k : Int) := ⟨_, rfl⟩
    rw [← hx] at l5 l6
    rw [← hy] at l7 ek
    rw [← hkk] at l2 ek
    have b1 : y ≤ y := by omega
    have y0 : 0 ≤ y := by omega
    have y9 : y ≤ 40 := by omega
    have x0 : 0 ≤ x := by omega
    have x9 : x ≤ 40 := by omega
    have kk0 : 0 ≤ kk := by omega
    have kk1 : kk < EG.length := by omega
    refine Gx.fin 40 Cs.tt (fun X _ => ?_)
    simp (disch := first | (refine c1_id ?_; assumption) | (refine c1_st rfl ?_; repeat (first | assumption | refine c1_st rfl ?_)) | omega) [nx_l, nx_r, nx_n, x_st, x_push, x_bin, x_div, x_un, x_dup, x_pop, x_dup2, x_goto, x_ifeq, x_ifne, x_iflt, x_ifge, x_ifgt, x_ifle, x_iceq, x_icne, x_iclt, x_icge, x_icgt, x_icle, x_ifnull, x_ifnonnull, x_ldi, x_lda, x_sti, x_sta, x_iinc, x_gf, x_pf, x_ald, x_ast, x_aln, x_len, x_cl_, x_cv, x_cs, x_rc, x_r0, x_isT, x_oi, x_rv, x_ri, x_ra, Value.category, t55_0, t55_1, t55_4, t55_5, t55_6, t55_7, t55_10, t55_12, t55_13, t55_16, t55_17, t55_18, t55_19, t55_21, t55_24, t55_26, t55_27, t55_30, t55_32, t55_33, t55_35, t55_36, t55_37, t55_40, t55_42, t55_44, t55_45, t55_48, t55_49, t55_50, t55_53, t55_55, t55_57, t55_60, t55_61, t55_62, t55_63, t55_66, t55_68, t55_69, t55_71, t55_73, t55_74, t55_75, t55_77, t55_79, t55_80, t55_83, t55_85, t55_86, t55_89, t55_90, t55_93, t55_94, t55_96, t55_98, t55_101, t55_104, t55_105, t55_107, t55_110, t55_112, t55_113, t55_115, t55_118, t55_119, t55_121, t55_123, t55_126, t55_128, t55_130, t55_133, t55_134, t55_135, t55_137, t55_139, t55_142, t55_145, t55_147, t55_149, t55_152, t55_153, t55_156, t55_157, lk_s, hp_get, hp_set, uH_at, uH_ne, uH_upd, uH_swap, iZ_add, iZ_sub, iZ_mul, iZ_neg, iZ_lt, iZ_le, iZ_eq, iZ_div, iZ_of, ix_Z, gZ_map, gZ_mapI, gZ_map', le_0, le_s, sZ_map, sZ_len, bZ_0, bZ_inj, bZ_t, bZ_f, nr_i, nr_0, nr_1, nr_b, ft_i, ft_b, ft_0, ft_1, zl_0, zl_1, l1, l2, l5, l6, l7, g1, g3, ek, b1, -List.filter_filter, -List.getElem?_map, -List.getD_eq_getElem?_getD]
  | s :: p, n, i, j, q, vs, b, w, lv, h1, h2, h3, h4, T1, T2, hG, hL, hM, hl => by
    obtain ⟨m, rfl, T1'⟩ := Ts_cons T1
    cases q with
    | nil =>
      rw [Ts_nil] at T2
      cases T2
    | cons s' q' =>
      obtain ⟨S, En, B, o, f1, f2, f3, f4, f5, f6, f7, f8, f9⟩ := hL.fm hN
      have hG' := hG
      obtain ⟨G1, G2, G3, G4, G5, G6, G7⟩ := hG'
      simp only [List.length_cons] at h2 h4
      have hi : i < (lC D k).2.length := by omega
      have hj : j < (lC E c).2.length := by omega
      rw [drop_gt hi] at h1
      injection h1 with h1a h1b
      have h3' := h3
      rw [drop_gt hj] at h3'
      injection h3' with h3a h3b
      have sk := stC_succ hk
      have ek := G3.2.1 k hk
      have sc := stC_succ hcE
      have mk := stC_mono (C := D) (show k + 1 ≤ D.length from hk)
      have mc := stC_mono (C := E) (show c + 1 ≤ E.length from hcE)
      rw [stC_all] at mk mc
      have lt1 := stC_lt hk hi
      have lt2 := stC_lt hcE hj
      have g9 := G4.2.1
      have es := G3.at hk hi
      rw [h1a] at es
      have es' := f3.at hcE hj
      rw [h3a] at es'
      have hsD := (G4.2.2 _ (lC_mem hk)).2.2 s (by rw [← h1a]; exact getD_mem hi)
      have hsv : sgV s := ⟨hsD.1, hsD.2.1, fun z => by have := hsD.2.2 z; omega⟩
      have hsv' : sgV s' := by
        rw [← h3a]
        exact (f4 _ (lC_mem hcE)).2 _ (getD_mem hj)
      have v1 := vc_rng hsv
      have v2 := vc_rng hsv'
      rw [show (stC D k : Int) + (i : Int) = ((stC D k + i : Nat) : Int) by omega] at es
      rw [show (stC E c : Int) + (j : Int) = ((stC E c + j : Nat) : Int) by omega] at es'
      have n3 := G2.2.2.1
      obtain ⟨lv2, L2, q8, q9, q10, g96⟩ := P55 (N := N) d hN hG f1 f2 (k : Int) (c : Int) ((stC E c + j : Nat) : Int) ((stC E (c + 1) : Nat) : Int) ((stC D k + i : Nat) : Int) (vc s) (vc s') (stC D (k + 1) : Int) (by omega) (by omega) ek (by omega) (by omega) (by omega) (by omega) (by omega) (by omega) (by omega) (by omega) es es' (by omega) (by omega) lv hl
      have X2 := m2 (d + 2) w N (vc s) (by omega) (by omega)
      have nMa : ∀ j, 53 ≤ j → ¬ j ∈ ksMa := fun j hj => n53 (by decide) hj
      by_cases hs9 : s < 99
      · have ev : vc s = 128 + 4 * s := by unfold vc; rw [if_pos hs9]
        have s26 := hsD.2.2 hs9
        have s0 := hsD.1
        rw [decide_eq_true (by omega), bZ_t] at X2
        have X3 := m3 (d + 2) w N (vc s) (by omega) (by omega)
        rw [show (vc s - 128) / 4 = s by omega] at X3
        obtain ⟨t1, t2, t3⟩ := tk_sp T2
        have etm : tm (flt E) (stC E c + j) = tk 1 (s' :: q') := by
          rw [tmA hcE hj (gE.2.2 _ (lC_mem hcE)).2.1]
          unfold tm
          rw [h3]
        have htT : Ts 1 (tm (flt E) (stC E c + j)) := by rw [etm]; exact t1
        have X20 := m20 (N := N) (d + 1) ((stC E c + j : Nat) : Int) f1 f2 (by omega) (by omega) (fun z z0 z1 => by
          have := f3.1 z.toNat (by omega)
          rw [show ((z.toNat : Nat) : Int) = z by omega] at this
          rw [this]
          exact vs_vc (f4.sg (by omega))) (by omega) (by omega) (by rw [fP_flt f3 f4 f5, Int.toNat_natCast]; exact htT)
        rw [fP_flt f3 f4 f5, Int.toNat_natCast] at X20
        have X20 : Xc (d + 3) 20 [.ref 10, .int (iZ ((stC E c + j : Nat) : Int))] (hp w N) (some (.int (iZ (((stC E c + j : Nat) : Int) + (tm (flt E) (stC E c + j)).length))), hp w N) := X20
        obtain ⟨B1, B2⟩ := m56 (N := N) (d + 1) hN hL hM s s0 s26 (stC E c + j) lt2 htT
        rw [etm] at B1 B2 X20
        obtain ⟨u, hu⟩ : ∃ u, u = tk 1 (s' :: q') := ⟨_, rfl⟩
        have tll := tm_len_le (P := flt E) (i := stC E c + j) (by omega)
        rw [etm, ← hu] at tll
        rw [← hu] at B1 B2 X20 t1 t2 t3 etm
        have eM : mtT (s :: p) (s' :: q') b = if b s = [] then mtT p ((s' :: q').drop u.length) (bU b s u) else if b s = u then mtT p ((s' :: q').drop u.length) b else none := by
          show (if s < 99 then _ else _) = _
          rw [if_pos hs9, hu]
        rw [eM]
        have uq : u.length ≤ (s' :: q').length := by
          have := congrArg List.length t3
          rw [List.length_append] at this
          omega
        simp only [List.length_cons] at uq
        have hdr : (lC E c).2.drop (j + u.length) = (s' :: q').drop u.length := by
          rw [← h3, List.drop_drop]
        obtain ⟨nx, hnx⟩ : ∃ nx : Int, nx = ((stC E c + j : Nat) : Int) + u.length := ⟨_, rfl⟩
        have enx : nx = ((stC E c + (j + u.length) : Nat) : Int) := by omega
        rw [← hnx] at B1 B2 X20
        obtain ⟨at_, hat⟩ : ∃ at_ : Int, at_ = ((stC E c + j : Nat) : Int) := ⟨_, rfl⟩
        have k24w := k24 hM
        have f7k := f1.1
        -- from 96 to 128
        have g128 : ∀ (w' : Nat → xC) (bb : Int), (bb = 0 ∨ bb = 1) → Xc (d + 3) 56 [.ref 27, .int (iZ s), .ref 10, .int (iZ ((stC E c + j : Nat) : Int)), .int (iZ nx)] (hp w N) (some (.int (iZ bb)), hp w' N) → ∃ lv3, lv55 lv3 a k c ((stC E c + j : Nat) : Int) (stC E (c + 1) : Nat) ((stC D k + i : Nat) : Int) ∧ x_lk lv3 9 = some (.int (iZ nx)) ∧ x_lk lv3 10 = some (.int (iZ bb)) ∧ ∀ res, Gx q_k55 (d + 3) 128 (lv3, [], hp w' N) res → Gx q_k55 (d + 3) 96 (lv2, [], hp w N) res := fun w' bb hbb X56 => by
          have L9 := L2.st (q := 9) (v := .int (iZ nx)) (by omega) rfl
          have L10 := L9.st (q := 10) (v := .int (iZ bb)) (by omega) rfl
          refine ⟨_, L10, by rw [lk_s L9.1, lk_s L2.1]; rfl, by rw [lk_s L9.1]; rfl, fun res hres => ?_⟩
          obtain ⟨hc, l0, l1, l2, l3, l4, l5, l6, l7⟩ := L2
          rw [← hat] at l5 X56 X20
          refine Gx.run 60 (((X2.and X20).and X3).and X56) (fun X mm => ?_) hres
          obtain ⟨⟨⟨mm1, mm2⟩, mm3⟩, mm4⟩ := mm
          simp (disch := first | (refine c1_id ?_; assumption) | (refine c1_st rfl ?_; repeat (first | assumption | refine c1_st rfl ?_)) | omega) [nx_l, nx_r, nx_n, x_st, x_push, x_bin, x_div, x_un, x_dup, x_pop, x_dup2, x_goto, x_ifeq, x_ifne, x_iflt, x_ifge, x_ifgt, x_ifle, x_iceq, x_icne, x_iclt, x_icge, x_icgt, x_icle, x_ifnull, x_ifnonnull, x_ldi, x_lda, x_sti, x_sta, x_iinc, x_gf, x_pf, x_ald, x_ast, x_aln, x_len, x_cl_, x_cv, x_cs, x_rc, x_r0, x_isT, x_oi, x_rv, x_ri, x_ra, Value.category, t55_0, t55_1, t55_4, t55_5, t55_6, t55_7, t55_10, t55_12, t55_13, t55_16, t55_17, t55_18, t55_19, t55_21, t55_24, t55_26, t55_27, t55_30, t55_32, t55_33, t55_35, t55_36, t55_37, t55_40, t55_42, t55_44, t55_45, t55_48, t55_49, t55_50, t55_53, t55_55, t55_57, t55_60, t55_61, t55_62, t55_63, t55_66, t55_68, t55_69, t55_71, t55_73, t55_74, t55_75, t55_77, t55_79, t55_80, t55_83, t55_85, t55_86, t55_89, t55_90, t55_93, t55_94, t55_96, t55_98, t55_101, t55_104, t55_105, t55_107, t55_110, t55_112, t55_113, t55_115, t55_118, t55_119, t55_121, t55_123, t55_126, t55_128, t55_130, t55_133, t55_134, t55_135, t55_137, t55_139, t55_142, t55_145, t55_147, t55_149, t55_152, t55_153, t55_156, t55_157, lk_s, hp_get, hp_set, uH_at, uH_ne, uH_upd, uH_swap, iZ_add, iZ_sub, iZ_mul, iZ_neg, iZ_lt, iZ_le, iZ_eq, iZ_div, iZ_of, ix_Z, gZ_map, gZ_mapI, gZ_map', le_0, le_s, sZ_map, sZ_len, bZ_0, bZ_inj, bZ_t, bZ_f, nr_i, nr_0, nr_1, nr_b, ft_i, ft_b, ft_0, ft_1, zl_0, zl_1, l0, l1, l2, l3, l4, l5, l6, l7, q8, k24w, f7k, mm1, mm2, mm3, mm4, MO, -List.filter_filter, -List.getElem?_map, -List.getD_eq_getElem?_getD]
        rw [ar_v hs9, Nat.add_zero] at T1'
        by_cases hv : s ∈ vs
        · have hM2 := hM
          obtain ⟨Tm, Bn, _, _, _, bw⟩ := hM2
          have hbs := (bw.2.2.2.2.2 s s0 s26).2 hv
          have hbn : b s ≠ [] := fun z => by
            have := Ts1_pos hbs.2.2.2
            rw [z] at this
            simp at this
          rw [if_neg hbn]
          have X56 := B1 hv
          by_cases hbu : b s = u
          · rw [if_pos hbu]
            rw [decide_eq_true hbu, bZ_t] at X56
            obtain ⟨lv3, L3, r9, r10, gA⟩ := g128 w 1 (Or.inr rfl) X56
            obtain ⟨lv4, L4, gB⟩ := E55 (w := w) (N := N) d lv3 L3 r9 r10
            obtain ⟨w', ex, b', ok, z1, z2, z3, z4, z5⟩ := l55 d hN ha k c hk hcE gE p m (i + 1) (j + u.length) ((s' :: q').drop u.length) vs b w lv4 h1b (by omega) hdr (by rw [List.length_drop]; simp only [List.length_cons]; omega) T1' t2 hG hL hM (by
              rw [enx] at L4
              rw [show ((stC D k + (i + 1) : Nat) : Int) = ((stC D k + i : Nat) : Int) + 1 by omega]
              exact L4)
            exact ⟨w', ex, b', ok, z1, z2, z3, z4, g96 _ (gA _ (gB _ z5))⟩
          · rw [if_neg hbu]
            rw [decide_eq_false hbu, bZ_f] at X56
            obtain ⟨lv3, L3, r9, r10, gA⟩ := g128 w 0 (Or.inl rfl) X56
            exact ⟨w, [], b, false, Fr.rf _ _, by rw [List.append_nil]; exact hM, fun _ _ => rfl, rfl, by rw [bZ_f]; exact g96 _ (gA _ (F55 d lv3 r10))⟩
        · obtain ⟨hbn, w1, y1, y2, X56⟩ := B2 hv
          rw [if_pos hbn]
          obtain ⟨lv3, L3, r9, r10, gA⟩ := g128 w1 1 (Or.inr rfl) X56
          obtain ⟨lv4, L4, gB⟩ := E55 (w := w1) (N := N) d lv3 L3 r9 r10
          obtain ⟨w', ex, b', ok, z1, z2, z3, z4, z5⟩ := l55 d hN ha k c hk hcE gE p m (i + 1) (j + u.length) ((s' :: q').drop u.length) (vs ++ [s]) (bU b s u) w1 lv4 h1b (by omega) hdr (by rw [List.length_drop]; simp only [List.length_cons]; omega) T1' t2 (hG.mv (fun j j0 _ => y1 j (nMa j (by omega)))) (hL.mv (fun j j0 j1 => y1 j (fun z => by
              unfold ksMa at z
              simp only [List.mem_cons, List.not_mem_nil, or_false] at z
              omega))) y2 (by
            rw [enx] at L4
            rw [show ((stC D k + (i + 1) : Nat) : Int) = ((stC D k + i : Nat) : Int) + 1 by omega]
            exact L4)
          refine ⟨w', s :: ex, b', ok, y1.tr z1, ?_, fun x hx => ?_, z4, g96 _ (gA _ (gB _ z5))⟩
          · rw [List.append_assoc] at z2
            exact z2
          · rw [z3 x (List.mem_append_left _ hx)]
            exact if_neg (fun e => hv (by rw [← e]; exact hx))
      · rw [decide_eq_false (by unfold vc; rw [if_neg hs9]; split <;> omega), bZ_f] at X2
        have eM : mtT (s :: p) (s' :: q') b = if s = s' then mtT p q' b else none := by
          show (if s < 99 then _ else _) = _
          rw [if_neg hs9]
        rw [eM]
        have g128 : ∀ res, Gx q_k55 (d + 3) 128 (lv2, [], hp w N) res → Gx q_k55 (d + 3) 96 (lv2, [], hp w N) res := fun res hres => by
          refine Gx.run 20 X2 (fun X mm => ?_) hres
          simp (disch := first | (refine c1_id ?_; assumption) | (refine c1_st rfl ?_; repeat (first | assumption | refine c1_st rfl ?_)) | omega) [nx_l, nx_r, nx_n, x_st, x_push, x_bin, x_div, x_un, x_dup, x_pop, x_dup2, x_goto, x_ifeq, x_ifne, x_iflt, x_ifge, x_ifgt, x_ifle, x_iceq, x_icne, x_iclt, x_icge, x_icgt, x_icle, x_ifnull, x_ifnonnull, x_ldi, x_lda, x_sti, x_sta, x_iinc, x_gf, x_pf, x_ald, x_ast, x_aln, x_len, x_cl_, x_cv, x_cs, x_rc, x_r0, x_isT, x_oi, x_rv, x_ri, x_ra, Value.category, t55_0, t55_1, t55_4, t55_5, t55_6, t55_7, t55_10, t55_12, t55_13, t55_16, t55_17, t55_18, t55_19, t55_21, t55_24, t55_26, t55_27, t55_30, t55_32, t55_33, t55_35, t55_36, t55_37, t55_40, t55_42, t55_44, t55_45, t55_48, t55_49, t55_50, t55_53, t55_55, t55_57, t55_60, t55_61, t55_62, t55_63, t55_66, t55_68, t55_69, t55_71, t55_73, t55_74, t55_75, t55_77, t55_79, t55_80, t55_83, t55_85, t55_86, t55_89, t55_90, t55_93, t55_94, t55_96, t55_98, t55_101, t55_104, t55_105, t55_107, t55_110, t55_112, t55_113, t55_115, t55_118, t55_119, t55_121, t55_123, t55_126, t55_128, t55_130, t55_133, t55_134, t55_135, t55_137, t55_139, t55_142, t55_145, t55_147, t55_149, t55_152, t55_153, t55_156, t55_157, lk_s, hp_get, hp_set, uH_at, uH_ne, uH_upd, uH_swap, iZ_add, iZ_sub, iZ_mul, iZ_neg, iZ_lt, iZ_le, iZ_eq, iZ_div, iZ_of, ix_Z, gZ_map, gZ_mapI, gZ_map', le_0, le_s, sZ_map, sZ_len, bZ_0, bZ_inj, bZ_t, bZ_f, nr_i, nr_0, nr_1, nr_b, ft_i, ft_b, ft_0, ft_1, zl_0, zl_1, q8, mm, -List.filter_filter, -List.getElem?_map, -List.getD_eq_getElem?_getD]
        by_cases hss : s = s'
        · rw [if_pos hss]
          rw [decide_eq_true (by rw [hss]), bZ_t] at q10
          obtain ⟨lv4, L4, gB⟩ := E55 (w := w) (N := N) d lv2 L2 q9 q10
          obtain ⟨m', em, T2'⟩ := Ts_cons T2
          have em' : m' = m := by omega
          subst em'
          rw [← hss] at T2'
          obtain ⟨w', ex, b', ok, z1, z2, z3, z4, z5⟩ := l55 d hN ha k c hk hcE gE p (m' + ar s) (i + 1) (j + 1) q' vs b w lv4 h1b (by omega) h3b (by omega) T1' T2' hG hL hM (by
            rw [show ((stC E c + (j + 1) : Nat) : Int) = ((stC E c + j : Nat) : Int) + 1 by omega, show ((stC D k + (i + 1) : Nat) : Int) = ((stC D k + i : Nat) : Int) + 1 by omega]
            exact L4)
          exact ⟨w', ex, b', ok, z1, z2, z3, z4, g96 _ (g128 _ (gB _ z5))⟩
        · rw [if_neg hss]
          rw [decide_eq_false (fun z => hss (vc_inj hsv hsv' z)), bZ_f] at q10
          exact ⟨w, [], b, false, Fr.rf _ _, by rw [List.append_nil]; exact hM, fun _ _ => rfl, rfl, by rw [bZ_f]; exact g96 _ (g128 _ (F55 d lv2 q10))⟩
end MB
