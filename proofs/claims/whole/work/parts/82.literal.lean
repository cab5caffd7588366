/-! the reference: a literal is read -/
theorem f103_0 : x_fetch q_k103 0 = x_lda 1 0 := rfl
theorem t103_0 (C : xF) (s n : Nat) (z : xS) : x_to q_k103 C s (n + 1) 0 z = x_nx q_k103 C s n ((x_lda 1 0) C z) := x_to_at f103_0 C s n z
theorem f103_1 : x_fetch q_k103 1 = x_gf 4 8 18 := rfl
theorem t103_1 (C : xF) (s n : Nat) (z : xS) : x_to q_k103 C s (n + 1) 1 z = x_nx q_k103 C s n ((x_gf 4 8 18) C z) := x_to_at f103_1 C s n z
theorem f103_4 : x_fetch q_k103 4 = x_lda 5 0 := rfl
theorem t103_4 (C : xF) (s n : Nat) (z : xS) : x_to q_k103 C s (n + 1) 4 z = x_nx q_k103 C s n ((x_lda 5 0) C z) := x_to_at f103_4 C s n z
theorem f103_5 : x_fetch q_k103 5 = x_gf 8 8 22 := rfl
theorem t103_5 (C : xF) (s n : Nat) (z : xS) : x_to q_k103 C s (n + 1) 5 z = x_nx q_k103 C s n ((x_gf 8 8 22) C z) := x_to_at f103_5 C s n z
theorem f103_8 : x_fetch q_k103 8 = x_lda 9 0 := rfl
theorem t103_8 (C : xF) (s n : Nat) (z : xS) : x_to q_k103 C s (n + 1) 8 z = x_nx q_k103 C s n ((x_lda 9 0) C z) := x_to_at f103_8 C s n z
theorem f103_9 : x_fetch q_k103 9 = x_gf 12 8 21 := rfl
theorem t103_9 (C : xF) (s n : Nat) (z : xS) : x_to q_k103 C s (n + 1) 9 z = x_nx q_k103 C s n ((x_gf 12 8 21) C z) := x_to_at f103_9 C s n z
theorem f103_12 : x_fetch q_k103 12 = x_ast 13 0 (fun x => x) := rfl
theorem t103_12 (C : xF) (s n : Nat) (z : xS) : x_to q_k103 C s (n + 1) 12 z = x_nx q_k103 C s n ((x_ast 13 0 (fun x => x)) C z) := x_to_at f103_12 C s n z
theorem f103_13 : x_fetch q_k103 13 = x_lda 14 0 := rfl
theorem t103_13 (C : xF) (s n : Nat) (z : xS) : x_to q_k103 C s (n + 1) 13 z = x_nx q_k103 C s n ((x_lda 14 0) C z) := x_to_at f103_13 C s n z
theorem f103_14 : x_fetch q_k103 14 = x_gf 17 8 20 := rfl
theorem t103_14 (C : xF) (s n : Nat) (z : xS) : x_to q_k103 C s (n + 1) 14 z = x_nx q_k103 C s n ((x_gf 17 8 20) C z) := x_to_at f103_14 C s n z
theorem f103_17 : x_fetch q_k103 17 = x_lda 18 0 := rfl
theorem t103_17 (C : xF) (s n : Nat) (z : xS) : x_to q_k103 C s (n + 1) 17 z = x_nx q_k103 C s n ((x_lda 18 0) C z) := x_to_at f103_17 C s n z
theorem f103_18 : x_fetch q_k103 18 = x_gf 21 8 22 := rfl
theorem t103_18 (C : xF) (s n : Nat) (z : xS) : x_to q_k103 C s (n + 1) 18 z = x_nx q_k103 C s n ((x_gf 21 8 22) C z) := x_to_at f103_18 C s n z
theorem f103_21 : x_fetch q_k103 21 = x_lda 22 0 := rfl
theorem t103_21 (C : xF) (s n : Nat) (z : xS) : x_to q_k103 C s (n + 1) 21 z = x_nx q_k103 C s n ((x_lda 22 0) C z) := x_to_at f103_21 C s n z
theorem f103_22 : x_fetch q_k103 22 = x_st (x_push 24 (.int (126))) := rfl
theorem t103_22 (C : xF) (s n : Nat) (z : xS) : x_to q_k103 C s (n + 1) 22 z = x_nx q_k103 C s n ((x_st (x_push 24 (.int (126)))) C z) := x_to_at f103_22 C s n z
theorem f103_24 : x_fetch q_k103 24 = x_cv 27 96 2 8 := rfl
theorem t103_24 (C : xF) (s n : Nat) (z : xS) : x_to q_k103 C s (n + 1) 24 z = x_nx q_k103 C s n ((x_cv 27 96 2 8) C z) := x_to_at f103_24 C s n z
theorem f103_27 : x_fetch q_k103 27 = x_ast 28 1 (fun x => vp_nar .boolean x) := rfl
theorem t103_27 (C : xF) (s n : Nat) (z : xS) : x_to q_k103 C s (n + 1) 27 z = x_nx q_k103 C s n ((x_ast 28 1 (fun x => vp_nar .boolean x)) C z) := x_to_at f103_27 C s n z
theorem f103_28 : x_fetch q_k103 28 = x_lda 29 0 := rfl
theorem t103_28 (C : xF) (s n : Nat) (z : xS) : x_to q_k103 C s (n + 1) 28 z = x_nx q_k103 C s n ((x_lda 29 0) C z) := x_to_at f103_28 C s n z
theorem f103_29 : x_fetch q_k103 29 = x_gf 32 8 21 := rfl
theorem t103_29 (C : xF) (s n : Nat) (z : xS) : x_to q_k103 C s (n + 1) 29 z = x_nx q_k103 C s n ((x_gf 32 8 21) C z) := x_to_at f103_29 C s n z
theorem f103_32 : x_fetch q_k103 32 = x_sti 33 1 := rfl
theorem t103_32 (C : xF) (s n : Nat) (z : xS) : x_to q_k103 C s (n + 1) 32 z = x_nx q_k103 C s n ((x_sti 33 1) C z) := x_to_at f103_32 C s n z
theorem f103_33 : x_fetch q_k103 33 = x_lda 34 0 := rfl
theorem t103_33 (C : xF) (s n : Nat) (z : xS) : x_to q_k103 C s (n + 1) 33 z = x_nx q_k103 C s n ((x_lda 34 0) C z) := x_to_at f103_33 C s n z
theorem f103_34 : x_fetch q_k103 34 = x_cv 37 95 1 8 := rfl
theorem t103_34 (C : xF) (s n : Nat) (z : xS) : x_to q_k103 C s (n + 1) 34 z = x_nx q_k103 C s n ((x_cv 37 95 1 8) C z) := x_to_at f103_34 C s n z
theorem f103_37 : x_fetch q_k103 37 = x_st (x_push 39 (.int (65))) := rfl
theorem t103_37 (C : xF) (s n : Nat) (z : xS) : x_to q_k103 C s (n + 1) 37 z = x_nx q_k103 C s n ((x_st (x_push 39 (.int (65)))) C z) := x_to_at f103_37 C s n z
theorem f103_39 : x_fetch q_k103 39 = x_st (x_iclt 55 42) := rfl
theorem t103_39 (C : xF) (s n : Nat) (z : xS) : x_to q_k103 C s (n + 1) 39 z = x_nx q_k103 C s n ((x_st (x_iclt 55 42)) C z) := x_to_at f103_39 C s n z
theorem f103_42 : x_fetch q_k103 42 = x_lda 43 0 := rfl
theorem t103_42 (C : xF) (s n : Nat) (z : xS) : x_to q_k103 C s (n + 1) 42 z = x_nx q_k103 C s n ((x_lda 43 0) C z) := x_to_at f103_42 C s n z
theorem f103_43 : x_fetch q_k103 43 = x_cv 46 95 1 8 := rfl
theorem t103_43 (C : xF) (s n : Nat) (z : xS) : x_to q_k103 C s (n + 1) 43 z = x_nx q_k103 C s n ((x_cv 46 95 1 8) C z) := x_to_at f103_43 C s n z
theorem f103_46 : x_fetch q_k103 46 = x_st (x_push 48 (.int (90))) := rfl
theorem t103_46 (C : xF) (s n : Nat) (z : xS) : x_to q_k103 C s (n + 1) 46 z = x_nx q_k103 C s n ((x_st (x_push 48 (.int (90)))) C z) := x_to_at f103_46 C s n z
theorem f103_48 : x_fetch q_k103 48 = x_st (x_icgt 55 51) := rfl
theorem t103_48 (C : xF) (s n : Nat) (z : xS) : x_to q_k103 C s (n + 1) 48 z = x_nx q_k103 C s n ((x_st (x_icgt 55 51)) C z) := x_to_at f103_48 C s n z
theorem f103_51 : x_fetch q_k103 51 = x_st (x_push 52 (.int (1))) := rfl
theorem t103_51 (C : xF) (s n : Nat) (z : xS) : x_to q_k103 C s (n + 1) 51 z = x_nx q_k103 C s n ((x_st (x_push 52 (.int (1)))) C z) := x_to_at f103_51 C s n z
theorem f103_52 : x_fetch q_k103 52 = x_st (x_goto 56) := rfl
theorem t103_52 (C : xF) (s n : Nat) (z : xS) : x_to q_k103 C s (n + 1) 52 z = x_nx q_k103 C s n ((x_st (x_goto 56)) C z) := x_to_at f103_52 C s n z
theorem f103_55 : x_fetch q_k103 55 = x_st (x_push 56 (.int (0))) := rfl
theorem t103_55 (C : xF) (s n : Nat) (z : xS) : x_to q_k103 C s (n + 1) 55 z = x_nx q_k103 C s n ((x_st (x_push 56 (.int (0)))) C z) := x_to_at f103_55 C s n z
theorem f103_56 : x_fetch q_k103 56 = x_sti 57 2 := rfl
theorem t103_56 (C : xF) (s n : Nat) (z : xS) : x_to q_k103 C s (n + 1) 56 z = x_nx q_k103 C s n ((x_sti 57 2) C z) := x_to_at f103_56 C s n z
theorem f103_57 : x_fetch q_k103 57 = x_lda 58 0 := rfl
theorem t103_57 (C : xF) (s n : Nat) (z : xS) : x_to q_k103 C s (n + 1) 57 z = x_nx q_k103 C s n ((x_lda 58 0) C z) := x_to_at f103_57 C s n z
theorem f103_58 : x_fetch q_k103 58 = x_cv 61 100 1 8 := rfl
theorem t103_58 (C : xF) (s n : Nat) (z : xS) : x_to q_k103 C s (n + 1) 58 z = x_nx q_k103 C s n ((x_cv 61 100 1 8) C z) := x_to_at f103_58 C s n z
theorem f103_61 : x_fetch q_k103 61 = x_lda 62 0 := rfl
theorem t103_61 (C : xF) (s n : Nat) (z : xS) : x_to q_k103 C s (n + 1) 61 z = x_nx q_k103 C s n ((x_lda 62 0) C z) := x_to_at f103_61 C s n z
theorem f103_62 : x_fetch q_k103 62 = x_gf 65 8 15 := rfl
theorem t103_62 (C : xF) (s n : Nat) (z : xS) : x_to q_k103 C s (n + 1) 62 z = x_nx q_k103 C s n ((x_gf 65 8 15) C z) := x_to_at f103_62 C s n z
theorem f103_65 : x_fetch q_k103 65 = x_st (x_ifne 144 68) := rfl
theorem t103_65 (C : xF) (s n : Nat) (z : xS) : x_to q_k103 C s (n + 1) 65 z = x_nx q_k103 C s n ((x_st (x_ifne 144 68)) C z) := x_to_at f103_65 C s n z
theorem f103_68 : x_fetch q_k103 68 = x_lda 69 0 := rfl
theorem t103_68 (C : xF) (s n : Nat) (z : xS) : x_to q_k103 C s (n + 1) 68 z = x_nx q_k103 C s n ((x_lda 69 0) C z) := x_to_at f103_68 C s n z
theorem f103_69 : x_fetch q_k103 69 = x_st (x_push 71 (.int (61))) := rfl
theorem t103_69 (C : xF) (s n : Nat) (z : xS) : x_to q_k103 C s (n + 1) 69 z = x_nx q_k103 C s n ((x_st (x_push 71 (.int (61)))) C z) := x_to_at f103_69 C s n z
theorem f103_71 : x_fetch q_k103 71 = x_cv 74 96 2 8 := rfl
theorem t103_71 (C : xF) (s n : Nat) (z : xS) : x_to q_k103 C s (n + 1) 71 z = x_nx q_k103 C s n ((x_cv 74 96 2 8) C z) := x_to_at f103_71 C s n z
theorem f103_74 : x_fetch q_k103 74 = x_st (x_ifeq 144 77) := rfl
theorem t103_74 (C : xF) (s n : Nat) (z : xS) : x_to q_k103 C s (n + 1) 74 z = x_nx q_k103 C s n ((x_st (x_ifeq 144 77)) C z) := x_to_at f103_74 C s n z
theorem f103_77 : x_fetch q_k103 77 = x_lda 78 0 := rfl
theorem t103_77 (C : xF) (s n : Nat) (z : xS) : x_to q_k103 C s (n + 1) 77 z = x_nx q_k103 C s n ((x_lda 78 0) C z) := x_to_at f103_77 C s n z
theorem f103_78 : x_fetch q_k103 78 = x_gf 81 8 21 := rfl
theorem t103_78 (C : xF) (s n : Nat) (z : xS) : x_to q_k103 C s (n + 1) 78 z = x_nx q_k103 C s n ((x_gf 81 8 21) C z) := x_to_at f103_78 C s n z
theorem f103_81 : x_fetch q_k103 81 = x_sti 82 3 := rfl
theorem t103_81 (C : xF) (s n : Nat) (z : xS) : x_to q_k103 C s (n + 1) 81 z = x_nx q_k103 C s n ((x_sti 82 3) C z) := x_to_at f103_81 C s n z
theorem f103_82 : x_fetch q_k103 82 = x_ldi 83 3 := rfl
theorem t103_82 (C : xF) (s n : Nat) (z : xS) : x_to q_k103 C s (n + 1) 82 z = x_nx q_k103 C s n ((x_ldi 83 3) C z) := x_to_at f103_82 C s n z
theorem f103_83 : x_fetch q_k103 83 = x_ldi 84 1 := rfl
theorem t103_83 (C : xF) (s n : Nat) (z : xS) : x_to q_k103 C s (n + 1) 83 z = x_nx q_k103 C s n ((x_ldi 84 1) C z) := x_to_at f103_83 C s n z
theorem f103_84 : x_fetch q_k103 84 = x_st (x_icle 107 87) := rfl
theorem t103_84 (C : xF) (s n : Nat) (z : xS) : x_to q_k103 C s (n + 1) 84 z = x_nx q_k103 C s n ((x_st (x_icle 107 87)) C z) := x_to_at f103_84 C s n z
theorem f103_87 : x_fetch q_k103 87 = x_lda 88 0 := rfl
theorem t103_87 (C : xF) (s n : Nat) (z : xS) : x_to q_k103 C s (n + 1) 87 z = x_nx q_k103 C s n ((x_lda 88 0) C z) := x_to_at f103_87 C s n z
theorem f103_88 : x_fetch q_k103 88 = x_gf 91 8 17 := rfl
theorem t103_88 (C : xF) (s n : Nat) (z : xS) : x_to q_k103 C s (n + 1) 88 z = x_nx q_k103 C s n ((x_gf 91 8 17) C z) := x_to_at f103_88 C s n z
theorem f103_91 : x_fetch q_k103 91 = x_ldi 92 3 := rfl
theorem t103_91 (C : xF) (s n : Nat) (z : xS) : x_to q_k103 C s (n + 1) 91 z = x_nx q_k103 C s n ((x_ldi 92 3) C z) := x_to_at f103_91 C s n z
theorem f103_92 : x_fetch q_k103 92 = x_lda 93 0 := rfl
theorem t103_92 (C : xF) (s n : Nat) (z : xS) : x_to q_k103 C s (n + 1) 92 z = x_nx q_k103 C s n ((x_lda 93 0) C z) := x_to_at f103_92 C s n z
theorem f103_93 : x_fetch q_k103 93 = x_gf 96 8 17 := rfl
theorem t103_93 (C : xF) (s n : Nat) (z : xS) : x_to q_k103 C s (n + 1) 93 z = x_nx q_k103 C s n ((x_gf 96 8 17) C z) := x_to_at f103_93 C s n z
theorem f103_96 : x_fetch q_k103 96 = x_ldi 97 3 := rfl
theorem t103_96 (C : xF) (s n : Nat) (z : xS) : x_to q_k103 C s (n + 1) 96 z = x_nx q_k103 C s n ((x_ldi 97 3) C z) := x_to_at f103_96 C s n z
theorem f103_97 : x_fetch q_k103 97 = x_st (x_push 98 (.int (1))) := rfl
theorem t103_97 (C : xF) (s n : Nat) (z : xS) : x_to q_k103 C s (n + 1) 97 z = x_nx q_k103 C s n ((x_st (x_push 98 (.int (1)))) C z) := x_to_at f103_97 C s n z
theorem f103_98 : x_fetch q_k103 98 = x_st (x_bin 99 (fun a b => a - b)) := rfl
theorem t103_98 (C : xF) (s n : Nat) (z : xS) : x_to q_k103 C s (n + 1) 98 z = x_nx q_k103 C s n ((x_st (x_bin 99 (fun a b => a - b))) C z) := x_to_at f103_98 C s n z
theorem f103_99 : x_fetch q_k103 99 = x_ald 100 0 := rfl
theorem t103_99 (C : xF) (s n : Nat) (z : xS) : x_to q_k103 C s (n + 1) 99 z = x_nx q_k103 C s n ((x_ald 100 0) C z) := x_to_at f103_99 C s n z
theorem f103_100 : x_fetch q_k103 100 = x_ast 101 0 (fun x => x) := rfl
theorem t103_100 (C : xF) (s n : Nat) (z : xS) : x_to q_k103 C s (n + 1) 100 z = x_nx q_k103 C s n ((x_ast 101 0 (fun x => x)) C z) := x_to_at f103_100 C s n z
theorem f103_101 : x_fetch q_k103 101 = x_iinc 104 3 (-1) := rfl
theorem t103_101 (C : xF) (s n : Nat) (z : xS) : x_to q_k103 C s (n + 1) 101 z = x_nx q_k103 C s n ((x_iinc 104 3 (-1)) C z) := x_to_at f103_101 C s n z
theorem f103_104 : x_fetch q_k103 104 = x_st (x_goto 82) := rfl
theorem t103_104 (C : xF) (s n : Nat) (z : xS) : x_to q_k103 C s (n + 1) 104 z = x_nx q_k103 C s n ((x_st (x_goto 82)) C z) := x_to_at f103_104 C s n z
theorem f103_107 : x_fetch q_k103 107 = x_lda 108 0 := rfl
theorem t103_107 (C : xF) (s n : Nat) (z : xS) : x_to q_k103 C s (n + 1) 107 z = x_nx q_k103 C s n ((x_lda 108 0) C z) := x_to_at f103_107 C s n z
theorem f103_108 : x_fetch q_k103 108 = x_gf 111 8 17 := rfl
theorem t103_108 (C : xF) (s n : Nat) (z : xS) : x_to q_k103 C s (n + 1) 108 z = x_nx q_k103 C s n ((x_gf 111 8 17) C z) := x_to_at f103_108 C s n z
theorem f103_111 : x_fetch q_k103 111 = x_ldi 112 1 := rfl
theorem t103_111 (C : xF) (s n : Nat) (z : xS) : x_to q_k103 C s (n + 1) 111 z = x_nx q_k103 C s n ((x_ldi 112 1) C z) := x_to_at f103_111 C s n z
theorem f103_112 : x_fetch q_k103 112 = x_st (x_push 114 (.int (99))) := rfl
theorem t103_112 (C : xF) (s n : Nat) (z : xS) : x_to q_k103 C s (n + 1) 112 z = x_nx q_k103 C s n ((x_st (x_push 114 (.int (99)))) C z) := x_to_at f103_112 C s n z
theorem f103_114 : x_fetch q_k103 114 = x_ast 115 0 (fun x => x) := rfl
theorem t103_114 (C : xF) (s n : Nat) (z : xS) : x_to q_k103 C s (n + 1) 114 z = x_nx q_k103 C s n ((x_ast 115 0 (fun x => x)) C z) := x_to_at f103_114 C s n z
theorem f103_115 : x_fetch q_k103 115 = x_lda 116 0 := rfl
theorem t103_115 (C : xF) (s n : Nat) (z : xS) : x_to q_k103 C s (n + 1) 115 z = x_nx q_k103 C s n ((x_lda 116 0) C z) := x_to_at f103_115 C s n z
theorem f103_116 : x_fetch q_k103 116 = x_st (x_dup 117) := rfl
theorem t103_116 (C : xF) (s n : Nat) (z : xS) : x_to q_k103 C s (n + 1) 116 z = x_nx q_k103 C s n ((x_st (x_dup 117)) C z) := x_to_at f103_116 C s n z
theorem f103_117 : x_fetch q_k103 117 = x_gf 120 8 21 := rfl
theorem t103_117 (C : xF) (s n : Nat) (z : xS) : x_to q_k103 C s (n + 1) 117 z = x_nx q_k103 C s n ((x_gf 120 8 21) C z) := x_to_at f103_117 C s n z
theorem f103_120 : x_fetch q_k103 120 = x_st (x_push 121 (.int (1))) := rfl
theorem t103_120 (C : xF) (s n : Nat) (z : xS) : x_to q_k103 C s (n + 1) 120 z = x_nx q_k103 C s n ((x_st (x_push 121 (.int (1)))) C z) := x_to_at f103_120 C s n z
theorem f103_121 : x_fetch q_k103 121 = x_st (x_bin 122 (fun a b => a + b)) := rfl
theorem t103_121 (C : xF) (s n : Nat) (z : xS) : x_to q_k103 C s (n + 1) 121 z = x_nx q_k103 C s n ((x_st (x_bin 122 (fun a b => a + b))) C z) := x_to_at f103_121 C s n z
theorem f103_122 : x_fetch q_k103 122 = x_pf 125 8 21 (.int) := rfl
theorem t103_122 (C : xF) (s n : Nat) (z : xS) : x_to q_k103 C s (n + 1) 122 z = x_nx q_k103 C s n ((x_pf 125 8 21 (.int)) C z) := x_to_at f103_122 C s n z
theorem f103_125 : x_fetch q_k103 125 = x_lda 126 0 := rfl
theorem t103_125 (C : xF) (s n : Nat) (z : xS) : x_to q_k103 C s (n + 1) 125 z = x_nx q_k103 C s n ((x_lda 126 0) C z) := x_to_at f103_125 C s n z
theorem f103_126 : x_fetch q_k103 126 = x_cv 129 100 1 8 := rfl
theorem t103_126 (C : xF) (s n : Nat) (z : xS) : x_to q_k103 C s (n + 1) 126 z = x_nx q_k103 C s n ((x_cv 129 100 1 8) C z) := x_to_at f103_126 C s n z
theorem f103_129 : x_fetch q_k103 129 = x_lda 130 0 := rfl
theorem t103_129 (C : xF) (s n : Nat) (z : xS) : x_to q_k103 C s (n + 1) 129 z = x_nx q_k103 C s n ((x_lda 130 0) C z) := x_to_at f103_129 C s n z
theorem f103_130 : x_fetch q_k103 130 = x_ldi 131 1 := rfl
theorem t103_130 (C : xF) (s n : Nat) (z : xS) : x_to q_k103 C s (n + 1) 130 z = x_nx q_k103 C s n ((x_ldi 131 1) C z) := x_to_at f103_130 C s n z
theorem f103_131 : x_fetch q_k103 131 = x_st (x_push 132 (.int (1))) := rfl
theorem t103_131 (C : xF) (s n : Nat) (z : xS) : x_to q_k103 C s (n + 1) 131 z = x_nx q_k103 C s n ((x_st (x_push 132 (.int (1)))) C z) := x_to_at f103_131 C s n z
theorem f103_132 : x_fetch q_k103 132 = x_st (x_bin 133 (fun a b => a + b)) := rfl
theorem t103_132 (C : xF) (s n : Nat) (z : xS) : x_to q_k103 C s (n + 1) 132 z = x_nx q_k103 C s n ((x_st (x_bin 133 (fun a b => a + b))) C z) := x_to_at f103_132 C s n z
theorem f103_133 : x_fetch q_k103 133 = x_lda 134 0 := rfl
theorem t103_133 (C : xF) (s n : Nat) (z : xS) : x_to q_k103 C s (n + 1) 133 z = x_nx q_k103 C s n ((x_lda 134 0) C z) := x_to_at f103_133 C s n z
theorem f103_134 : x_fetch q_k103 134 = x_gf 137 8 21 := rfl
theorem t103_134 (C : xF) (s n : Nat) (z : xS) : x_to q_k103 C s (n + 1) 134 z = x_nx q_k103 C s n ((x_gf 137 8 21) C z) := x_to_at f103_134 C s n z
theorem f103_137 : x_fetch q_k103 137 = x_st (x_push 138 (.int (0))) := rfl
theorem t103_137 (C : xF) (s n : Nat) (z : xS) : x_to q_k103 C s (n + 1) 137 z = x_nx q_k103 C s n ((x_st (x_push 138 (.int (0)))) C z) := x_to_at f103_137 C s n z
theorem f103_138 : x_fetch q_k103 138 = x_cv 141 102 4 8 := rfl
theorem t103_138 (C : xF) (s n : Nat) (z : xS) : x_to q_k103 C s (n + 1) 138 z = x_nx q_k103 C s n ((x_cv 141 102 4 8) C z) := x_to_at f103_138 C s n z
theorem f103_141 : x_fetch q_k103 141 = x_st (x_goto 174) := rfl
theorem t103_141 (C : xF) (s n : Nat) (z : xS) : x_to q_k103 C s (n + 1) 141 z = x_nx q_k103 C s n ((x_st (x_goto 174)) C z) := x_to_at f103_141 C s n z
theorem f103_144 : x_fetch q_k103 144 = x_lda 145 0 := rfl
theorem t103_144 (C : xF) (s n : Nat) (z : xS) : x_to q_k103 C s (n + 1) 144 z = x_nx q_k103 C s n ((x_lda 145 0) C z) := x_to_at f103_144 C s n z
theorem f103_145 : x_fetch q_k103 145 = x_lda 146 0 := rfl
theorem t103_145 (C : xF) (s n : Nat) (z : xS) : x_to q_k103 C s (n + 1) 145 z = x_nx q_k103 C s n ((x_lda 146 0) C z) := x_to_at f103_145 C s n z
theorem f103_146 : x_fetch q_k103 146 = x_gf 149 8 15 := rfl
theorem t103_146 (C : xF) (s n : Nat) (z : xS) : x_to q_k103 C s (n + 1) 146 z = x_nx q_k103 C s n ((x_gf 149 8 15) C z) := x_to_at f103_146 C s n z
theorem f103_149 : x_fetch q_k103 149 = x_st (x_ifne 156 152) := rfl
theorem t103_149 (C : xF) (s n : Nat) (z : xS) : x_to q_k103 C s (n + 1) 149 z = x_nx q_k103 C s n ((x_st (x_ifne 156 152)) C z) := x_to_at f103_149 C s n z
theorem f103_152 : x_fetch q_k103 152 = x_ldi 153 2 := rfl
theorem t103_152 (C : xF) (s n : Nat) (z : xS) : x_to q_k103 C s (n + 1) 152 z = x_nx q_k103 C s n ((x_ldi 153 2) C z) := x_to_at f103_152 C s n z
theorem f103_153 : x_fetch q_k103 153 = x_st (x_ifeq 160 156) := rfl
theorem t103_153 (C : xF) (s n : Nat) (z : xS) : x_to q_k103 C s (n + 1) 153 z = x_nx q_k103 C s n ((x_st (x_ifeq 160 156)) C z) := x_to_at f103_153 C s n z
theorem f103_156 : x_fetch q_k103 156 = x_st (x_push 157 (.int (1))) := rfl
theorem t103_156 (C : xF) (s n : Nat) (z : xS) : x_to q_k103 C s (n + 1) 156 z = x_nx q_k103 C s n ((x_st (x_push 157 (.int (1)))) C z) := x_to_at f103_156 C s n z
theorem f103_157 : x_fetch q_k103 157 = x_st (x_goto 161) := rfl
theorem t103_157 (C : xF) (s n : Nat) (z : xS) : x_to q_k103 C s (n + 1) 157 z = x_nx q_k103 C s n ((x_st (x_goto 161)) C z) := x_to_at f103_157 C s n z
theorem f103_160 : x_fetch q_k103 160 = x_st (x_push 161 (.int (0))) := rfl
theorem t103_160 (C : xF) (s n : Nat) (z : xS) : x_to q_k103 C s (n + 1) 160 z = x_nx q_k103 C s n ((x_st (x_push 161 (.int (0)))) C z) := x_to_at f103_160 C s n z
theorem f103_161 : x_fetch q_k103 161 = x_pf 164 8 15 (.boolean) := rfl
theorem t103_161 (C : xF) (s n : Nat) (z : xS) : x_to q_k103 C s (n + 1) 161 z = x_nx q_k103 C s n ((x_pf 164 8 15 (.boolean)) C z) := x_to_at f103_161 C s n z
theorem f103_164 : x_fetch q_k103 164 = x_lda 165 0 := rfl
theorem t103_164 (C : xF) (s n : Nat) (z : xS) : x_to q_k103 C s (n + 1) 164 z = x_nx q_k103 C s n ((x_lda 165 0) C z) := x_to_at f103_164 C s n z
theorem f103_165 : x_fetch q_k103 165 = x_ldi 166 1 := rfl
theorem t103_165 (C : xF) (s n : Nat) (z : xS) : x_to q_k103 C s (n + 1) 165 z = x_nx q_k103 C s n ((x_ldi 166 1) C z) := x_to_at f103_165 C s n z
set_option maxRecDepth 20000 in
theorem f103_166 : x_fetch q_k103 166 = x_lda 167 0 := rfl
theorem t103_166 (C : xF) (s n : Nat) (z : xS) : x_to q_k103 C s (n + 1) 166 z = x_nx q_k103 C s n ((x_lda 167 0) C z) := x_to_at f103_166 C s n z
set_option maxRecDepth 20000 in
theorem f103_167 : x_fetch q_k103 167 = x_gf 170 8 21 := rfl
theorem t103_167 (C : xF) (s n : Nat) (z : xS) : x_to q_k103 C s (n + 1) 167 z = x_nx q_k103 C s n ((x_gf 170 8 21) C z) := x_to_at f103_167 C s n z
set_option maxRecDepth 20000 in
theorem f103_170 : x_fetch q_k103 170 = x_st (x_push 171 (.int (1))) := rfl
theorem t103_170 (C : xF) (s n : Nat) (z : xS) : x_to q_k103 C s (n + 1) 170 z = x_nx q_k103 C s n ((x_st (x_push 171 (.int (1)))) C z) := x_to_at f103_170 C s n z
set_option maxRecDepth 20000 in
theorem f103_171 : x_fetch q_k103 171 = x_cv 174 102 4 8 := rfl
theorem t103_171 (C : xF) (s n : Nat) (z : xS) : x_to q_k103 C s (n + 1) 171 z = x_nx q_k103 C s n ((x_cv 174 102 4 8) C z) := x_to_at f103_171 C s n z
set_option maxRecDepth 20000 in
theorem f103_174 : x_fetch q_k103 174 = x_lda 175 0 := rfl
theorem t103_174 (C : xF) (s n : Nat) (z : xS) : x_to q_k103 C s (n + 1) 174 z = x_nx q_k103 C s n ((x_lda 175 0) C z) := x_to_at f103_174 C s n z
set_option maxRecDepth 20000 in
theorem f103_175 : x_fetch q_k103 175 = x_st (x_dup 176) := rfl
theorem t103_175 (C : xF) (s n : Nat) (z : xS) : x_to q_k103 C s (n + 1) 175 z = x_nx q_k103 C s n ((x_st (x_dup 176)) C z) := x_to_at f103_175 C s n z
set_option maxRecDepth 20000 in
theorem f103_176 : x_fetch q_k103 176 = x_gf 179 8 22 := rfl
theorem t103_176 (C : xF) (s n : Nat) (z : xS) : x_to q_k103 C s (n + 1) 176 z = x_nx q_k103 C s n ((x_gf 179 8 22) C z) := x_to_at f103_176 C s n z
set_option maxRecDepth 20000 in
theorem f103_179 : x_fetch q_k103 179 = x_st (x_push 180 (.int (1))) := rfl
theorem t103_179 (C : xF) (s n : Nat) (z : xS) : x_to q_k103 C s (n + 1) 179 z = x_nx q_k103 C s n ((x_st (x_push 180 (.int (1)))) C z) := x_to_at f103_179 C s n z
set_option maxRecDepth 20000 in
theorem f103_180 : x_fetch q_k103 180 = x_st (x_bin 181 (fun a b => a + b)) := rfl
theorem t103_180 (C : xF) (s n : Nat) (z : xS) : x_to q_k103 C s (n + 1) 180 z = x_nx q_k103 C s n ((x_st (x_bin 181 (fun a b => a + b))) C z) := x_to_at f103_180 C s n z
set_option maxRecDepth 20000 in
theorem f103_181 : x_fetch q_k103 181 = x_pf 184 8 22 (.int) := rfl
theorem t103_181 (C : xF) (s n : Nat) (z : xS) : x_to q_k103 C s (n + 1) 181 z = x_nx q_k103 C s n ((x_pf 184 8 22 (.int)) C z) := x_to_at f103_181 C s n z
set_option maxRecDepth 20000 in
theorem f103_184 : x_fetch q_k103 184 = x_lda 185 0 := rfl
theorem t103_184 (C : xF) (s n : Nat) (z : xS) : x_to q_k103 C s (n + 1) 184 z = x_nx q_k103 C s n ((x_lda 185 0) C z) := x_to_at f103_184 C s n z
set_option maxRecDepth 20000 in
theorem f103_185 : x_fetch q_k103 185 = x_gf 188 8 18 := rfl
theorem t103_185 (C : xF) (s n : Nat) (z : xS) : x_to q_k103 C s (n + 1) 185 z = x_nx q_k103 C s n ((x_gf 188 8 18) C z) := x_to_at f103_185 C s n z
set_option maxRecDepth 20000 in
theorem f103_188 : x_fetch q_k103 188 = x_lda 189 0 := rfl
theorem t103_188 (C : xF) (s n : Nat) (z : xS) : x_to q_k103 C s (n + 1) 188 z = x_nx q_k103 C s n ((x_lda 189 0) C z) := x_to_at f103_188 C s n z
set_option maxRecDepth 20000 in
theorem f103_189 : x_fetch q_k103 189 = x_gf 192 8 22 := rfl
theorem t103_189 (C : xF) (s n : Nat) (z : xS) : x_to q_k103 C s (n + 1) 189 z = x_nx q_k103 C s n ((x_gf 192 8 22) C z) := x_to_at f103_189 C s n z
set_option maxRecDepth 20000 in
theorem f103_192 : x_fetch q_k103 192 = x_lda 193 0 := rfl
theorem t103_192 (C : xF) (s n : Nat) (z : xS) : x_to q_k103 C s (n + 1) 192 z = x_nx q_k103 C s n ((x_lda 193 0) C z) := x_to_at f103_192 C s n z
set_option maxRecDepth 20000 in
theorem f103_193 : x_fetch q_k103 193 = x_gf 196 8 21 := rfl
theorem t103_193 (C : xF) (s n : Nat) (z : xS) : x_to q_k103 C s (n + 1) 193 z = x_nx q_k103 C s n ((x_gf 196 8 21) C z) := x_to_at f103_193 C s n z
set_option maxRecDepth 20000 in
theorem f103_196 : x_fetch q_k103 196 = x_ast 197 0 (fun x => x) := rfl
theorem t103_196 (C : xF) (s n : Nat) (z : xS) : x_to q_k103 C s (n + 1) 196 z = x_nx q_k103 C s n ((x_ast 197 0 (fun x => x)) C z) := x_to_at f103_196 C s n z
set_option maxRecDepth 20000 in
theorem f103_197 : x_fetch q_k103 197 = x_lda 198 0 := rfl
theorem t103_197 (C : xF) (s n : Nat) (z : xS) : x_to q_k103 C s (n + 1) 197 z = x_nx q_k103 C s n ((x_lda 198 0) C z) := x_to_at f103_197 C s n z
set_option maxRecDepth 20000 in
theorem f103_198 : x_fetch q_k103 198 = x_lda 199 0 := rfl
theorem t103_198 (C : xF) (s n : Nat) (z : xS) : x_to q_k103 C s (n + 1) 198 z = x_nx q_k103 C s n ((x_lda 199 0) C z) := x_to_at f103_198 C s n z
set_option maxRecDepth 20000 in
theorem f103_199 : x_fetch q_k103 199 = x_gf 202 8 22 := rfl
theorem t103_199 (C : xF) (s n : Nat) (z : xS) : x_to q_k103 C s (n + 1) 199 z = x_nx q_k103 C s n ((x_gf 202 8 22) C z) := x_to_at f103_199 C s n z
set_option maxRecDepth 20000 in
theorem f103_202 : x_fetch q_k103 202 = x_st (x_push 203 (.int (1))) := rfl
theorem t103_202 (C : xF) (s n : Nat) (z : xS) : x_to q_k103 C s (n + 1) 202 z = x_nx q_k103 C s n ((x_st (x_push 203 (.int (1)))) C z) := x_to_at f103_202 C s n z
set_option maxRecDepth 20000 in
theorem f103_203 : x_fetch q_k103 203 = x_st (x_bin 204 (fun a b => a - b)) := rfl
theorem t103_203 (C : xF) (s n : Nat) (z : xS) : x_to q_k103 C s (n + 1) 203 z = x_nx q_k103 C s n ((x_st (x_bin 204 (fun a b => a - b))) C z) := x_to_at f103_203 C s n z
set_option maxRecDepth 20000 in
theorem f103_204 : x_fetch q_k103 204 = x_cv 207 104 2 8 := rfl
theorem t103_204 (C : xF) (s n : Nat) (z : xS) : x_to q_k103 C s (n + 1) 204 z = x_nx q_k103 C s n ((x_cv 207 104 2 8) C z) := x_to_at f103_204 C s n z
set_option maxRecDepth 20000 in
theorem f103_207 : x_fetch q_k103 207 = x_st (x_ifeq 233 210) := rfl
theorem t103_207 (C : xF) (s n : Nat) (z : xS) : x_to q_k103 C s (n + 1) 207 z = x_nx q_k103 C s n ((x_st (x_ifeq 233 210)) C z) := x_to_at f103_207 C s n z
set_option maxRecDepth 20000 in
theorem f103_210 : x_fetch q_k103 210 = x_lda 211 0 := rfl
theorem t103_210 (C : xF) (s n : Nat) (z : xS) : x_to q_k103 C s (n + 1) 210 z = x_nx q_k103 C s n ((x_lda 211 0) C z) := x_to_at f103_210 C s n z
set_option maxRecDepth 20000 in
theorem f103_211 : x_fetch q_k103 211 = x_st (x_dup 212) := rfl
theorem t103_211 (C : xF) (s n : Nat) (z : xS) : x_to q_k103 C s (n + 1) 211 z = x_nx q_k103 C s n ((x_st (x_dup 212)) C z) := x_to_at f103_211 C s n z
set_option maxRecDepth 20000 in
theorem f103_212 : x_fetch q_k103 212 = x_gf 215 8 22 := rfl
theorem t103_212 (C : xF) (s n : Nat) (z : xS) : x_to q_k103 C s (n + 1) 212 z = x_nx q_k103 C s n ((x_gf 215 8 22) C z) := x_to_at f103_212 C s n z
set_option maxRecDepth 20000 in
theorem f103_215 : x_fetch q_k103 215 = x_st (x_push 216 (.int (1))) := rfl
theorem t103_215 (C : xF) (s n : Nat) (z : xS) : x_to q_k103 C s (n + 1) 215 z = x_nx q_k103 C s n ((x_st (x_push 216 (.int (1)))) C z) := x_to_at f103_215 C s n z
set_option maxRecDepth 20000 in
theorem f103_216 : x_fetch q_k103 216 = x_st (x_bin 217 (fun a b => a - b)) := rfl
theorem t103_216 (C : xF) (s n : Nat) (z : xS) : x_to q_k103 C s (n + 1) 216 z = x_nx q_k103 C s n ((x_st (x_bin 217 (fun a b => a - b))) C z) := x_to_at f103_216 C s n z
set_option maxRecDepth 20000 in
theorem f103_217 : x_fetch q_k103 217 = x_pf 220 8 22 (.int) := rfl
theorem t103_217 (C : xF) (s n : Nat) (z : xS) : x_to q_k103 C s (n + 1) 217 z = x_nx q_k103 C s n ((x_pf 220 8 22 (.int)) C z) := x_to_at f103_217 C s n z
set_option maxRecDepth 20000 in
theorem f103_220 : x_fetch q_k103 220 = x_lda 221 0 := rfl
theorem t103_220 (C : xF) (s n : Nat) (z : xS) : x_to q_k103 C s (n + 1) 220 z = x_nx q_k103 C s n ((x_lda 221 0) C z) := x_to_at f103_220 C s n z
set_option maxRecDepth 20000 in
theorem f103_221 : x_fetch q_k103 221 = x_lda 222 0 := rfl
theorem t103_221 (C : xF) (s n : Nat) (z : xS) : x_to q_k103 C s (n + 1) 221 z = x_nx q_k103 C s n ((x_lda 222 0) C z) := x_to_at f103_221 C s n z
set_option maxRecDepth 20000 in
theorem f103_222 : x_fetch q_k103 222 = x_gf 225 8 18 := rfl
theorem t103_222 (C : xF) (s n : Nat) (z : xS) : x_to q_k103 C s (n + 1) 222 z = x_nx q_k103 C s n ((x_gf 225 8 18) C z) := x_to_at f103_222 C s n z
set_option maxRecDepth 20000 in
theorem f103_225 : x_fetch q_k103 225 = x_lda 226 0 := rfl
theorem t103_225 (C : xF) (s n : Nat) (z : xS) : x_to q_k103 C s (n + 1) 225 z = x_nx q_k103 C s n ((x_lda 226 0) C z) := x_to_at f103_225 C s n z
set_option maxRecDepth 20000 in
theorem f103_226 : x_fetch q_k103 226 = x_gf 229 8 22 := rfl
theorem t103_226 (C : xF) (s n : Nat) (z : xS) : x_to q_k103 C s (n + 1) 226 z = x_nx q_k103 C s n ((x_gf 229 8 22) C z) := x_to_at f103_226 C s n z
set_option maxRecDepth 20000 in
theorem f103_229 : x_fetch q_k103 229 = x_ald 230 0 := rfl
theorem t103_229 (C : xF) (s n : Nat) (z : xS) : x_to q_k103 C s (n + 1) 229 z = x_nx q_k103 C s n ((x_ald 230 0) C z) := x_to_at f103_229 C s n z
set_option maxRecDepth 20000 in
theorem f103_230 : x_fetch q_k103 230 = x_pf 233 8 21 (.int) := rfl
theorem t103_230 (C : xF) (s n : Nat) (z : xS) : x_to q_k103 C s (n + 1) 230 z = x_nx q_k103 C s n ((x_pf 233 8 21 (.int)) C z) := x_to_at f103_230 C s n z
set_option maxRecDepth 20000 in
theorem f103_233 : x_fetch q_k103 233 = x_rv := rfl
theorem t103_233 (C : xF) (s n : Nat) (z : xS) : x_to q_k103 C s (n + 1) 233 z = x_nx q_k103 C s n ((x_rv) C z) := x_to_at f103_233 C s n z
def shD : Nat → Int → List Int → List Int
  | 0, _, R => R
  | r + 1, k, R => shD r (k - 1) (sZ R k (gZ R (k - 1)))
theorem shD_len : ∀ (r : Nat) (k : Int) (R : List Int), (shD r k R).length = R.length
  | 0, _, _ => rfl
  | r + 1, k, R => by
    show (shD r (k - 1) (sZ R k (gZ R (k - 1)))).length = _
    rw [shD_len r, sZ_len]
theorem shD_at : ∀ (r : Nat) (k : Int) (R : List Int) (j : Int), 0 ≤ k - r → k < R.length → 0 ≤ j → gZ (shD r k R) j = if k - r < j ∧ j ≤ k then gZ R (j - 1) else gZ R j
  | 0, k, R, j, h0, h1, j0 => by
    rw [if_neg (by omega)]
    rfl
  | r + 1, k, R, j, h0, h1, j0 => by
    show gZ (shD r (k - 1) (sZ R k (gZ R (k - 1)))) j = _
    rw [shD_at r (k - 1) _ j (by omega) (by rw [sZ_len]; omega) j0]
    by_cases hj : k - 1 - r < j ∧ j ≤ k - 1
    · rw [if_pos hj, if_pos (by omega), gZ_sZ (by omega) h1 (by omega), if_neg (by omega)]
    · rw [if_neg hj, gZ_sZ (by omega) h1 j0]
      by_cases e : k = j
      · rw [if_pos e, if_pos (by omega), e]
      · rw [if_neg e, if_neg (by omega)]
section LI
variable {w : Nat → xC} {N : Nat} {m : Nat → Int} {x : Nat → List Int} {C : List (Int × List Int)} {lv : xL}
theorem RO.tr (h : RO w m x) (hd : ∀ i, 0 ≤ i → i < m 3 → 0 ≤ gZ (x 37) i ∧ gZ (x 37) i < 128) (h4 : 0 ≤ m 4) (h43 : m 4 ≤ m 3) (h3 : m 3 ≤ 60) (h7 : 0 ≤ m 7) (h74 : m 7 ≤ m 4) : TR w m (x 37) (x 38) (x 49) :=
  ⟨h.1, (h.2 37 (by decide) (by decide)).1, (h.2 37 (by decide) (by decide)).2, (h.2 38 (by decide) (by decide)).1, (h.2 38 (by decide) (by decide)).2, (h.2 49 (by decide) (by decide)).1, (h.2 49 (by decide) (by decide)).2, h4, h43, h3, hd, h7, h74⟩
theorem RO.ofTR {w' : Nat → xC} {m' : Nat → Int} {D R' St' : List Int} (h : RO w m x) (f : Fr ksR w w') (t : TR w' m' D R' St') : RO w' m' (ux (ux x 38 R') 49 St') := by
  obtain ⟨t1, t2, t3, t4, t5, t6, t7, t8⟩ := t
  refine RO.upd (ks := [38, 49]) h f t1 (fun j hj => ?_) (fun j hj => ?_)
  · simp only [List.mem_cons, List.not_mem_nil, or_false] at hj
    rcases hj with rfl | rfl
    · exact ⟨t4, t5⟩
    · exact ⟨t6, t7⟩
  · simp only [List.mem_cons, List.not_mem_nil, or_false, not_or] at hj
    rw [ux_ne hj.2, ux_ne hj.1]
theorem l103_82 (d : Nat) (hN : 53 ≤ N) (hm : w 27 = .inr (8, mF m)) (fr : Int) (f0 : 0 ≤ fr) : ∀ (r : Nat) (k : Int) (R : List Int) (lv : xL), k - r = fr → k < 600 → R.length = 600 → c1 lv → x_lk lv 0 = some (.ref 30) → x_lk lv 1 = some (.int (iZ fr)) → x_lk lv 3 = some (.int (iZ k)) → ∃ lv', c1 lv' ∧ (∀ j, j ≠ 3 → x_lk lv' j = x_lk lv j) ∧ ∀ res, Gx q_k103 d 107 (lv', [], hp (uH w 38 (cI 0 (shD r k R))) N) res → Gx q_k103 d 82 (lv, [], hp (uH w 38 (cI 0 R)) N) res := by
  intro r
  induction r with
  | zero =>
    intro k R lv hk h6 hR hc l0 l1 l3
    refine ⟨lv, hc, fun _ _ => rfl, fun res hg => Gx.run 20 Cs.tt (fun C _ => ?_) hg⟩
    have b1 : k ≤ fr := by omega
    simp (disch := first | (refine c1_id ?_; assumption) | (refine c1_st rfl ?_; repeat (first | assumption | refine c1_st rfl ?_)) | omega) [nx_l, nx_r, nx_n, x_st, x_push, x_bin, x_div, x_un, x_dup, x_pop, x_dup2, x_goto, x_ifeq, x_ifne, x_iflt, x_ifge, x_ifgt, x_ifle, x_iceq, x_icne, x_iclt, x_icge, x_icgt, x_icle, x_ifnull, x_ifnonnull, x_ldi, x_lda, x_sti, x_sta, x_iinc, x_gf, x_pf, x_ald, x_ast, x_aln, x_len, x_cl_, x_cv, x_cs, x_rc, x_r0, x_isT, x_oi, x_rv, x_ri, x_ra, Value.category, t103_0, t103_1, t103_4, t103_5, t103_8, t103_9, t103_12, t103_13, t103_14, t103_17, t103_18, t103_21, t103_22, t103_24, t103_27, t103_28, t103_29, t103_32, t103_33, t103_34, t103_37, t103_39, t103_42, t103_43, t103_46, t103_48, t103_51, t103_52, t103_55, t103_56, t103_57, t103_58, t103_61, t103_62, t103_65, t103_68, t103_69, t103_71, t103_74, t103_77, t103_78, t103_81, t103_82, t103_83, t103_84, t103_87, t103_88, t103_91, t103_92, t103_93, t103_96, t103_97, t103_98, t103_99, t103_100, t103_101, t103_104, t103_107, t103_108, t103_111, t103_112, t103_114, t103_115, t103_116, t103_117, t103_120, t103_121, t103_122, t103_125, t103_126, t103_129, t103_130, t103_131, t103_132, t103_133, t103_134, t103_137, t103_138, t103_141, t103_144, t103_145, t103_146, t103_149, t103_152, t103_153, t103_156, t103_157, t103_160, t103_161, t103_164, t103_165, t103_166, t103_167, t103_170, t103_171, t103_174, t103_175, t103_176, t103_179, t103_180, t103_181, t103_184, t103_185, t103_188, t103_189, t103_192, t103_193, t103_196, t103_197, t103_198, t103_199, t103_202, t103_203, t103_204, t103_207, t103_210, t103_211, t103_212, t103_215, t103_216, t103_217, t103_220, t103_221, t103_222, t103_225, t103_226, t103_229, t103_230, t103_233, lk_s, hp_get, hp_set, uH_at, uH_ne, uH_upd, uH_swap, iZ_add, iZ_sub, iZ_mul, iZ_neg, iZ_lt, iZ_le, iZ_eq, iZ_div, iZ_of, ix_Z, gZ_map, gZ_mapI, gZ_map', le_0, le_s, sZ_map, sZ_len, bZ_0, bZ_inj, bZ_t, bZ_f, nr_i, nr_0, nr_1, nr_b, ft_i, ft_b, ft_0, ft_1, zl_0, zl_1, zl_61, zl_65, zl_90, zl_99, zl_126, mF_len, mg_0, mg_1, mg_2, mg_3, mg_4, mg_5, mg_6, mg_7, mg_8, mg_9, mg_10, mg_11, mg_12, mg_13, mg_14, mg_15, mg_16, mg_17, mg_18, mg_19, mg_20, mg_21, mg_22, mg_23, mg_24, mg_25, mg_26, mg_27, mg_28, mg_29, mg_30, mg_31, mg_32, mg_33, mg_34, mg_35, mg_36, mg_37, mg_38, ms_0, ms_1, ms_2, ms_13, ms_14, ms_15, ms_16, ms_21, ms_22, ms_23, ms_24, ms_28, ms_36, ms_37, ms_38, st_at, st_ne, st_st, st_swap, l0, l1, l3, hm, b1, shD, -List.filter_filter, -List.getElem?_map, -List.getD_eq_getElem?_getD]
  | succ r ih =>
    intro k R lv hk h6 hR hc l0 l1 l3
    obtain ⟨lv', h1, h2, h3⟩ := ih (k - 1) (sZ R k (gZ R (k - 1))) ((3, .int (iZ (k - 1))) :: lv.filter (x_keep 3)) (by omega) (by omega) (by rw [sZ_len]; exact hR) (c1_st rfl hc) (by rw [lk_s hc]; exact l0) (by rw [lk_s hc]; exact l1) (by rw [lk_s hc]; rfl)
    refine ⟨lv', h1, fun j hj => by rw [h2 j hj, lk_s hc, if_neg (Ne.symm hj)], fun res hg => Gx.run 40 Cs.tt (fun C _ => ?_) (h3 res hg)⟩
    have b1 : ¬ k ≤ fr := by omega
    have ek : k + -1 = k - 1 := by omega
    simp (disch := first | (refine c1_id ?_; assumption) | (refine c1_st rfl ?_; repeat (first | assumption | refine c1_st rfl ?_)) | omega) [nx_l, nx_r, nx_n, x_st, x_push, x_bin, x_div, x_un, x_dup, x_pop, x_dup2, x_goto, x_ifeq, x_ifne, x_iflt, x_ifge, x_ifgt, x_ifle, x_iceq, x_icne, x_iclt, x_icge, x_icgt, x_icle, x_ifnull, x_ifnonnull, x_ldi, x_lda, x_sti, x_sta, x_iinc, x_gf, x_pf, x_ald, x_ast, x_aln, x_len, x_cl_, x_cv, x_cs, x_rc, x_r0, x_isT, x_oi, x_rv, x_ri, x_ra, Value.category, t103_0, t103_1, t103_4, t103_5, t103_8, t103_9, t103_12, t103_13, t103_14, t103_17, t103_18, t103_21, t103_22, t103_24, t103_27, t103_28, t103_29, t103_32, t103_33, t103_34, t103_37, t103_39, t103_42, t103_43, t103_46, t103_48, t103_51, t103_52, t103_55, t103_56, t103_57, t103_58, t103_61, t103_62, t103_65, t103_68, t103_69, t103_71, t103_74, t103_77, t103_78, t103_81, t103_82, t103_83, t103_84, t103_87, t103_88, t103_91, t103_92, t103_93, t103_96, t103_97, t103_98, t103_99, t103_100, t103_101, t103_104, t103_107, t103_108, t103_111, t103_112, t103_114, t103_115, t103_116, t103_117, t103_120, t103_121, t103_122, t103_125, t103_126, t103_129, t103_130, t103_131, t103_132, t103_133, t103_134, t103_137, t103_138, t103_141, t103_144, t103_145, t103_146, t103_149, t103_152, t103_153, t103_156, t103_157, t103_160, t103_161, t103_164, t103_165, t103_166, t103_167, t103_170, t103_171, t103_174, t103_175, t103_176, t103_179, t103_180, t103_181, t103_184, t103_185, t103_188, t103_189, t103_192, t103_193, t103_196, t103_197, t103_198, t103_199, t103_202, t103_203, t103_204, t103_207, t103_210, t103_211, t103_212, t103_215, t103_216, t103_217, t103_220, t103_221, t103_222, t103_225, t103_226, t103_229, t103_230, t103_233, lk_s, hp_get, hp_set, uH_at, uH_ne, uH_upd, uH_swap, iZ_add, iZ_sub, iZ_mul, iZ_neg, iZ_lt, iZ_le, iZ_eq, iZ_div, iZ_of, ix_Z, gZ_map, gZ_mapI, gZ_map', le_0, le_s, sZ_map, sZ_len, bZ_0, bZ_inj, bZ_t, bZ_f, nr_i, nr_0, nr_1, nr_b, ft_i, ft_b, ft_0, ft_1, zl_0, zl_1, zl_61, zl_65, zl_90, zl_99, zl_126, mF_len, mg_0, mg_1, mg_2, mg_3, mg_4, mg_5, mg_6, mg_7, mg_8, mg_9, mg_10, mg_11, mg_12, mg_13, mg_14, mg_15, mg_16, mg_17, mg_18, mg_19, mg_20, mg_21, mg_22, mg_23, mg_24, mg_25, mg_26, mg_27, mg_28, mg_29, mg_30, mg_31, mg_32, mg_33, mg_34, mg_35, mg_36, mg_37, mg_38, ms_0, ms_1, ms_2, ms_13, ms_14, ms_15, ms_16, ms_21, ms_22, ms_23, ms_24, ms_28, ms_36, ms_37, ms_38, st_at, st_ne, st_st, st_swap, l0, l1, l3, hm, b1, ek, -List.filter_filter, -List.getElem?_map, -List.getD_eq_getElem?_getD]
theorem F174 (d : Nat) (hN : 53 ≤ N) (h : RO w m x) (hI : RI x) (hW : RW C (x 38) (x 39) (x 41)) (hc6 : C.length ≤ 6) (e8 : m 8 = C.length) (h7 : ((flt C).length : Int) ≤ m 7) (h7' : m 7 ≤ 90) (hr : ∀ i, 0 ≤ i → i < m 7 → 0 ≤ gZ (x 38) i ∧ gZ (x 38) i < 100000) (hc : c1 lv) (l0 : x_lk lv 0 = some (.ref 30)) :
    ∃ tw : Bool, tw = twF (sameL (x 38) (sZ (x 39) (C.length + 1) (m 7)) (x 41) C.length (m 7 - (flt C).length)) C.length 0 ∧ Gx q_k103 (d + 1) 174 (lv, [], hp w N) (none, hp (uH (uH w 27 (.inr (8, mF (if tw = true then st_ (st_ m 7 (flt C).length) 8 C.length else st_ m 8 (C.length + 1))))) 39 (cI 0 (sZ (x 39) (C.length + 1) (m 7)))) N) := by
  have r_ : ∀ j, 28 ≤ j → j ≤ 51 → w j = cI (kdR j) (x j) ∧ (x j).length = lnR j := h.2
  have hm := h.1
  have h39 : w 39 = cI 0 (x 39) := (r_ 39 (by decide) (by decide)).1
  have n39 : (x 39).length = 14 := (r_ 39 (by decide) (by decide)).2
  obtain ⟨Sa, hSa⟩ : ∃ Sa, Sa = sZ (x 39) (C.length + 1) (m 7) := ⟨_, rfl⟩
  have nSa : Sa.length = 14 := by rw [hSa, sZ_len]; exact n39
  have eSa : ∀ i, 0 ≤ i → gZ Sa i = if (C.length : Int) + 1 = i then m 7 else gZ (x 39) i := fun i i0 => by rw [hSa]; exact gZ_sZ (by omega) (by omega) i0
  have lo : ∀ k : Nat, k ≤ C.length → gZ Sa k = stC C k := fun k hk => by
    rw [eSa _ (by omega), if_neg (by omega)]
    exact hW.2.1 k hk
  have eC : gZ Sa C.length = (flt C).length := by rw [lo _ (Nat.le_refl _), stC_all]
  have eC1 : gZ Sa ((C.length : Int) + 1) = m 7 := by rw [eSa _ (by omega), if_pos rfl]
  obtain ⟨m1, hm1⟩ : ∃ m1, m1 = st_ m 8 ((C.length : Int) + 1) := ⟨_, rfl⟩
  obtain ⟨w1, hw1⟩ : ∃ w1, w1 = uH (uH w 27 (.inr (8, mF m1))) 39 (cI 0 Sa) := ⟨_, rfl⟩
  have R1 : RO w1 m1 (ux x 39 Sa) := by rw [hw1]; exact (h.fld m1).set (j := 39) (by decide) nSa
  have r1 : ∀ j, 28 ≤ j → j ≤ 51 → w1 j = cI (kdR j) (ux x 39 Sa j) ∧ (ux x 39 Sa j).length = lnR j := R1.2
  have hm1' := R1.1
  have X := m104 (B := m 7) (K := (C.length : Int) + 1) d hN R1.1 (r1 38 (by decide) (by decide)).1 (r1 38 (by decide) (by decide)).2 (r1 39 (by decide) (by decide)).1 nSa (r1 41 (by decide) (by decide)).1 (r1 41 (by decide) (by decide)).2 hr (by omega) (fun i i0 i1 => by
    show 0 ≤ gZ Sa i ∧ gZ Sa i ≤ m 7
    by_cases hi : (C.length : Int) + 1 = i
    · rw [← hi, eC1]
      omega
    · have := lo i.toNat (by omega)
      rw [show ((i.toNat : Nat) : Int) = i by omega] at this
      have h9 := stC_mono (C := C) (show i.toNat ≤ C.length by omega)
      rw [stC_all] at h9
      omega) (fun i _ _ => hI.2.1 i) C.length (by omega) (by omega) (by omega) (by show 0 ≤ gZ Sa ((C.length : Int) + 1) - gZ Sa C.length; rw [eC, eC1]; omega) (by show gZ Sa ((C.length : Int) + 1) - gZ Sa C.length ≤ 100; rw [eC, eC1]; omega) (by show gZ Sa ((C.length : Int) + 1) ≤ m 7; rw [eC1]; omega)
  have X' : Xc (d + 1) 104 [.ref 30, .int (iZ C.length)] (hp w1 N) (some (.int (iZ (bZ (twF (sameL (x 38) Sa (x 41) C.length (m 7 - (flt C).length)) C.length 0)))), hp w1 N) := by
    have := X
    rw [show gZ (ux x 39 Sa 39) ((C.length : Int) + 1) = m 7 from eC1, show gZ (ux x 39 Sa 39) C.length = (flt C).length from eC, show ((C.length : Int)).toNat = C.length by omega] at this
    exact this
  rw [← hSa]
  obtain ⟨tw, htw⟩ : ∃ tw, tw = twF (sameL (x 38) Sa (x 41) C.length (m 7 - (flt C).length)) C.length 0 := ⟨_, rfl⟩
  rw [← htw] at X' ⊢
  refine ⟨tw, rfl, ?_⟩
  have h39' : w1 39 = cI 0 Sa := (r1 39 (by decide) (by decide)).1
  have eo : (C.length : Int) + 1 - 1 = C.length := by omega
  have k8 : m1 8 = (C.length : Int) + 1 := by rw [hm1, st_at]
  have s2 : Gx q_k103 (d + 1) 197 (lv, [], hp w1 N) (none, hp (uH (uH w 27 (.inr (8, mF (if tw = true then st_ (st_ m 7 (flt C).length) 8 C.length else st_ m 8 (C.length + 1))))) 39 (cI 0 Sa)) N) := by
    cases tw with
    | false =>
      rw [if_neg (by decide), ← hm1, ← hw1]
      refine Gx.fin 40 X' (fun K mm => ?_)
      simp (disch := first | (refine c1_id ?_; assumption) | (refine c1_st rfl ?_; repeat (first | assumption | refine c1_st rfl ?_)) | omega) [nx_l, nx_r, nx_n, x_st, x_push, x_bin, x_div, x_un, x_dup, x_pop, x_dup2, x_goto, x_ifeq, x_ifne, x_iflt, x_ifge, x_ifgt, x_ifle, x_iceq, x_icne, x_iclt, x_icge, x_icgt, x_icle, x_ifnull, x_ifnonnull, x_ldi, x_lda, x_sti, x_sta, x_iinc, x_gf, x_pf, x_ald, x_ast, x_aln, x_len, x_cl_, x_cv, x_cs, x_rc, x_r0, x_isT, x_oi, x_rv, x_ri, x_ra, Value.category, t103_0, t103_1, t103_4, t103_5, t103_8, t103_9, t103_12, t103_13, t103_14, t103_17, t103_18, t103_21, t103_22, t103_24, t103_27, t103_28, t103_29, t103_32, t103_33, t103_34, t103_37, t103_39, t103_42, t103_43, t103_46, t103_48, t103_51, t103_52, t103_55, t103_56, t103_57, t103_58, t103_61, t103_62, t103_65, t103_68, t103_69, t103_71, t103_74, t103_77, t103_78, t103_81, t103_82, t103_83, t103_84, t103_87, t103_88, t103_91, t103_92, t103_93, t103_96, t103_97, t103_98, t103_99, t103_100, t103_101, t103_104, t103_107, t103_108, t103_111, t103_112, t103_114, t103_115, t103_116, t103_117, t103_120, t103_121, t103_122, t103_125, t103_126, t103_129, t103_130, t103_131, t103_132, t103_133, t103_134, t103_137, t103_138, t103_141, t103_144, t103_145, t103_146, t103_149, t103_152, t103_153, t103_156, t103_157, t103_160, t103_161, t103_164, t103_165, t103_166, t103_167, t103_170, t103_171, t103_174, t103_175, t103_176, t103_179, t103_180, t103_181, t103_184, t103_185, t103_188, t103_189, t103_192, t103_193, t103_196, t103_197, t103_198, t103_199, t103_202, t103_203, t103_204, t103_207, t103_210, t103_211, t103_212, t103_215, t103_216, t103_217, t103_220, t103_221, t103_222, t103_225, t103_226, t103_229, t103_230, t103_233, lk_s, hp_get, hp_set, uH_at, uH_ne, uH_upd, uH_swap, iZ_add, iZ_sub, iZ_mul, iZ_neg, iZ_lt, iZ_le, iZ_eq, iZ_div, iZ_of, ix_Z, gZ_map, gZ_mapI, gZ_map', le_0, le_s, sZ_map, sZ_len, bZ_0, bZ_inj, bZ_t, bZ_f, nr_i, nr_0, nr_1, nr_b, ft_i, ft_b, ft_0, ft_1, zl_0, zl_1, zl_61, zl_65, zl_90, zl_99, zl_126, mF_len, mg_0, mg_1, mg_2, mg_3, mg_4, mg_5, mg_6, mg_7, mg_8, mg_9, mg_10, mg_11, mg_12, mg_13, mg_14, mg_15, mg_16, mg_17, mg_18, mg_19, mg_20, mg_21, mg_22, mg_23, mg_24, mg_25, mg_26, mg_27, mg_28, mg_29, mg_30, mg_31, mg_32, mg_33, mg_34, mg_35, mg_36, mg_37, mg_38, ms_0, ms_1, ms_2, ms_13, ms_14, ms_15, ms_16, ms_21, ms_22, ms_23, ms_24, ms_28, ms_36, ms_37, ms_38, st_at, st_ne, st_st, st_swap, l0, hm1', k8, eo, mm, -List.filter_filter, -List.getElem?_map, -List.getD_eq_getElem?_getD]
    | true =>
      rw [if_pos rfl]
      have ew : uH (uH w 27 (.inr (8, mF (st_ (st_ m 7 (flt C).length) 8 C.length)))) 39 (cI 0 Sa) = uH w1 27 (.inr (8, mF (st_ (st_ m 7 (flt C).length) 8 C.length))) := by
        rw [hw1]
        funext j
        unfold uH
        by_cases j1 : j = 39
        · subst j1; rfl
        · by_cases j2 : j = 27
          · subst j2; rfl
          · simp [j1, j2]
      have em : st_ (st_ m 7 ((flt C).length : Int)) 8 (C.length : Int) = st_ (st_ m1 7 ((flt C).length : Int)) 8 (C.length : Int) := by
        rw [hm1]
        funext j
        unfold st_
        by_cases j1 : j = 8
        · simp [j1]
        · by_cases j2 : j = 7
          · simp [j2]
          · simp [j1, j2]
      rw [ew, em]
      refine Gx.fin 60 X' (fun K mm => ?_)
      simp (disch := first | (refine c1_id ?_; assumption) | (refine c1_st rfl ?_; repeat (first | assumption | refine c1_st rfl ?_)) | omega) [nx_l, nx_r, nx_n, x_st, x_push, x_bin, x_div, x_un, x_dup, x_pop, x_dup2, x_goto, x_ifeq, x_ifne, x_iflt, x_ifge, x_ifgt, x_ifle, x_iceq, x_icne, x_iclt, x_icge, x_icgt, x_icle, x_ifnull, x_ifnonnull, x_ldi, x_lda, x_sti, x_sta, x_iinc, x_gf, x_pf, x_ald, x_ast, x_aln, x_len, x_cl_, x_cv, x_cs, x_rc, x_r0, x_isT, x_oi, x_rv, x_ri, x_ra, Value.category, t103_0, t103_1, t103_4, t103_5, t103_8, t103_9, t103_12, t103_13, t103_14, t103_17, t103_18, t103_21, t103_22, t103_24, t103_27, t103_28, t103_29, t103_32, t103_33, t103_34, t103_37, t103_39, t103_42, t103_43, t103_46, t103_48, t103_51, t103_52, t103_55, t103_56, t103_57, t103_58, t103_61, t103_62, t103_65, t103_68, t103_69, t103_71, t103_74, t103_77, t103_78, t103_81, t103_82, t103_83, t103_84, t103_87, t103_88, t103_91, t103_92, t103_93, t103_96, t103_97, t103_98, t103_99, t103_100, t103_101, t103_104, t103_107, t103_108, t103_111, t103_112, t103_114, t103_115, t103_116, t103_117, t103_120, t103_121, t103_122, t103_125, t103_126, t103_129, t103_130, t103_131, t103_132, t103_133, t103_134, t103_137, t103_138, t103_141, t103_144, t103_145, t103_146, t103_149, t103_152, t103_153, t103_156, t103_157, t103_160, t103_161, t103_164, t103_165, t103_166, t103_167, t103_170, t103_171, t103_174, t103_175, t103_176, t103_179, t103_180, t103_181, t103_184, t103_185, t103_188, t103_189, t103_192, t103_193, t103_196, t103_197, t103_198, t103_199, t103_202, t103_203, t103_204, t103_207, t103_210, t103_211, t103_212, t103_215, t103_216, t103_217, t103_220, t103_221, t103_222, t103_225, t103_226, t103_229, t103_230, t103_233, lk_s, hp_get, hp_set, uH_at, uH_ne, uH_upd, uH_swap, iZ_add, iZ_sub, iZ_mul, iZ_neg, iZ_lt, iZ_le, iZ_eq, iZ_div, iZ_of, ix_Z, gZ_map, gZ_mapI, gZ_map', le_0, le_s, sZ_map, sZ_len, bZ_0, bZ_inj, bZ_t, bZ_f, nr_i, nr_0, nr_1, nr_b, ft_i, ft_b, ft_0, ft_1, zl_0, zl_1, zl_61, zl_65, zl_90, zl_99, zl_126, mF_len, mg_0, mg_1, mg_2, mg_3, mg_4, mg_5, mg_6, mg_7, mg_8, mg_9, mg_10, mg_11, mg_12, mg_13, mg_14, mg_15, mg_16, mg_17, mg_18, mg_19, mg_20, mg_21, mg_22, mg_23, mg_24, mg_25, mg_26, mg_27, mg_28, mg_29, mg_30, mg_31, mg_32, mg_33, mg_34, mg_35, mg_36, mg_37, mg_38, ms_0, ms_1, ms_2, ms_13, ms_14, ms_15, ms_16, ms_21, ms_22, ms_23, ms_24, ms_28, ms_36, ms_37, ms_38, st_at, st_ne, st_st, st_swap, l0, hm1', h39', k8, eo, eC, mm, -List.filter_filter, -List.getElem?_map, -List.getD_eq_getElem?_getD]
  refine Gx.run 40 Cs.tt (fun K _ => ?_) s2
  rw [hw1, hm1, hSa]
  simp (disch := first | (refine c1_id ?_; assumption) | (refine c1_st rfl ?_; repeat (first | assumption | refine c1_st rfl ?_)) | omega) [nx_l, nx_r, nx_n, x_st, x_push, x_bin, x_div, x_un, x_dup, x_pop, x_dup2, x_goto, x_ifeq, x_ifne, x_iflt, x_ifge, x_ifgt, x_ifle, x_iceq, x_icne, x_iclt, x_icge, x_icgt, x_icle, x_ifnull, x_ifnonnull, x_ldi, x_lda, x_sti, x_sta, x_iinc, x_gf, x_pf, x_ald, x_ast, x_aln, x_len, x_cl_, x_cv, x_cs, x_rc, x_r0, x_isT, x_oi, x_rv, x_ri, x_ra, Value.category, t103_0, t103_1, t103_4, t103_5, t103_8, t103_9, t103_12, t103_13, t103_14, t103_17, t103_18, t103_21, t103_22, t103_24, t103_27, t103_28, t103_29, t103_32, t103_33, t103_34, t103_37, t103_39, t103_42, t103_43, t103_46, t103_48, t103_51, t103_52, t103_55, t103_56, t103_57, t103_58, t103_61, t103_62, t103_65, t103_68, t103_69, t103_71, t103_74, t103_77, t103_78, t103_81, t103_82, t103_83, t103_84, t103_87, t103_88, t103_91, t103_92, t103_93, t103_96, t103_97, t103_98, t103_99, t103_100, t103_101, t103_104, t103_107, t103_108, t103_111, t103_112, t103_114, t103_115, t103_116, t103_117, t103_120, t103_121, t103_122, t103_125, t103_126, t103_129, t103_130, t103_131, t103_132, t103_133, t103_134, t103_137, t103_138, t103_141, t103_144, t103_145, t103_146, t103_149, t103_152, t103_153, t103_156, t103_157, t103_160, t103_161, t103_164, t103_165, t103_166, t103_167, t103_170, t103_171, t103_174, t103_175, t103_176, t103_179, t103_180, t103_181, t103_184, t103_185, t103_188, t103_189, t103_192, t103_193, t103_196, t103_197, t103_198, t103_199, t103_202, t103_203, t103_204, t103_207, t103_210, t103_211, t103_212, t103_215, t103_216, t103_217, t103_220, t103_221, t103_222, t103_225, t103_226, t103_229, t103_230, t103_233, lk_s, hp_get, hp_set, uH_at, uH_ne, uH_upd, uH_swap, iZ_add, iZ_sub, iZ_mul, iZ_neg, iZ_lt, iZ_le, iZ_eq, iZ_div, iZ_of, ix_Z, gZ_map, gZ_mapI, gZ_map', le_0, le_s, sZ_map, sZ_len, bZ_0, bZ_inj, bZ_t, bZ_f, nr_i, nr_0, nr_1, nr_b, ft_i, ft_b, ft_0, ft_1, zl_0, zl_1, zl_61, zl_65, zl_90, zl_99, zl_126, mF_len, mg_0, mg_1, mg_2, mg_3, mg_4, mg_5, mg_6, mg_7, mg_8, mg_9, mg_10, mg_11, mg_12, mg_13, mg_14, mg_15, mg_16, mg_17, mg_18, mg_19, mg_20, mg_21, mg_22, mg_23, mg_24, mg_25, mg_26, mg_27, mg_28, mg_29, mg_30, mg_31, mg_32, mg_33, mg_34, mg_35, mg_36, mg_37, mg_38, ms_0, ms_1, ms_2, ms_13, ms_14, ms_15, ms_16, ms_21, ms_22, ms_23, ms_24, ms_28, ms_36, ms_37, ms_38, st_at, st_ne, st_st, st_swap, l0, hm, h39, e8, -List.filter_filter, -List.getElem?_map, -List.getD_eq_getElem?_getD]
end LI
