/-! the class: the graph is loaded -/
theorem f41_0 : x_fetch q_k41 0 = x_st (x_push 1 (.int (0))) := rfl
theorem t41_0 (C : xF) (s n : Nat) (z : xS) : x_to q_k41 C s (n + 1) 0 z = x_nx q_k41 C s n ((x_st (x_push 1 (.int (0)))) C z) := x_to_at f41_0 C s n z
theorem f41_1 : x_fetch q_k41 1 = x_sti 2 3 := rfl
theorem t41_1 (C : xF) (s n : Nat) (z : xS) : x_to q_k41 C s (n + 1) 1 z = x_nx q_k41 C s n ((x_sti 2 3) C z) := x_to_at f41_1 C s n z
theorem f41_2 : x_fetch q_k41 2 = x_ldi 3 3 := rfl
theorem t41_2 (C : xF) (s n : Nat) (z : xS) : x_to q_k41 C s (n + 1) 2 z = x_nx q_k41 C s n ((x_ldi 3 3) C z) := x_to_at f41_2 C s n z
theorem f41_3 : x_fetch q_k41 3 = x_lda 4 1 := rfl
theorem t41_3 (C : xF) (s n : Nat) (z : xS) : x_to q_k41 C s (n + 1) 3 z = x_nx q_k41 C s n ((x_lda 4 1) C z) := x_to_at f41_3 C s n z
theorem f41_4 : x_fetch q_k41 4 = x_gf 7 4 4 := rfl
theorem t41_4 (C : xF) (s n : Nat) (z : xS) : x_to q_k41 C s (n + 1) 4 z = x_nx q_k41 C s n ((x_gf 7 4 4) C z) := x_to_at f41_4 C s n z
theorem f41_7 : x_fetch q_k41 7 = x_st (x_icge 131 10) := rfl
theorem t41_7 (C : xF) (s n : Nat) (z : xS) : x_to q_k41 C s (n + 1) 7 z = x_nx q_k41 C s n ((x_st (x_icge 131 10)) C z) := x_to_at f41_7 C s n z
theorem f41_10 : x_fetch q_k41 10 = x_lda 11 0 := rfl
theorem t41_10 (C : xF) (s n : Nat) (z : xS) : x_to q_k41 C s (n + 1) 10 z = x_nx q_k41 C s n ((x_lda 11 0) C z) := x_to_at f41_10 C s n z
theorem f41_11 : x_fetch q_k41 11 = x_gf 14 5 7 := rfl
theorem t41_11 (C : xF) (s n : Nat) (z : xS) : x_to q_k41 C s (n + 1) 11 z = x_nx q_k41 C s n ((x_gf 14 5 7) C z) := x_to_at f41_11 C s n z
theorem f41_14 : x_fetch q_k41 14 = x_st (x_push 16 (.int (80))) := rfl
theorem t41_14 (C : xF) (s n : Nat) (z : xS) : x_to q_k41 C s (n + 1) 14 z = x_nx q_k41 C s n ((x_st (x_push 16 (.int (80)))) C z) := x_to_at f41_14 C s n z
theorem f41_16 : x_fetch q_k41 16 = x_st (x_icge 131 19) := rfl
theorem t41_16 (C : xF) (s n : Nat) (z : xS) : x_to q_k41 C s (n + 1) 16 z = x_nx q_k41 C s n ((x_st (x_icge 131 19)) C z) := x_to_at f41_16 C s n z
theorem f41_19 : x_fetch q_k41 19 = x_lda 20 1 := rfl
theorem t41_19 (C : xF) (s n : Nat) (z : xS) : x_to q_k41 C s (n + 1) 19 z = x_nx q_k41 C s n ((x_lda 20 1) C z) := x_to_at f41_19 C s n z
theorem f41_20 : x_fetch q_k41 20 = x_gf 23 4 0 := rfl
theorem t41_20 (C : xF) (s n : Nat) (z : xS) : x_to q_k41 C s (n + 1) 20 z = x_nx q_k41 C s n ((x_gf 23 4 0) C z) := x_to_at f41_20 C s n z
theorem f41_23 : x_fetch q_k41 23 = x_ldi 24 3 := rfl
theorem t41_23 (C : xF) (s n : Nat) (z : xS) : x_to q_k41 C s (n + 1) 23 z = x_nx q_k41 C s n ((x_ldi 24 3) C z) := x_to_at f41_23 C s n z
theorem f41_24 : x_fetch q_k41 24 = x_ald 25 0 := rfl
theorem t41_24 (C : xF) (s n : Nat) (z : xS) : x_to q_k41 C s (n + 1) 24 z = x_nx q_k41 C s n ((x_ald 25 0) C z) := x_to_at f41_24 C s n z
theorem f41_25 : x_fetch q_k41 25 = x_sti 27 4 := rfl
theorem t41_25 (C : xF) (s n : Nat) (z : xS) : x_to q_k41 C s (n + 1) 25 z = x_nx q_k41 C s n ((x_sti 27 4) C z) := x_to_at f41_25 C s n z
theorem f41_27 : x_fetch q_k41 27 = x_lda 28 0 := rfl
theorem t41_27 (C : xF) (s n : Nat) (z : xS) : x_to q_k41 C s (n + 1) 27 z = x_nx q_k41 C s n ((x_lda 28 0) C z) := x_to_at f41_27 C s n z
theorem f41_28 : x_fetch q_k41 28 = x_gf 31 5 2 := rfl
theorem t41_28 (C : xF) (s n : Nat) (z : xS) : x_to q_k41 C s (n + 1) 28 z = x_nx q_k41 C s n ((x_gf 31 5 2) C z) := x_to_at f41_28 C s n z
theorem f41_31 : x_fetch q_k41 31 = x_lda 32 0 := rfl
theorem t41_31 (C : xF) (s n : Nat) (z : xS) : x_to q_k41 C s (n + 1) 31 z = x_nx q_k41 C s n ((x_lda 32 0) C z) := x_to_at f41_31 C s n z
theorem f41_32 : x_fetch q_k41 32 = x_gf 35 5 7 := rfl
theorem t41_32 (C : xF) (s n : Nat) (z : xS) : x_to q_k41 C s (n + 1) 32 z = x_nx q_k41 C s n ((x_gf 35 5 7) C z) := x_to_at f41_32 C s n z
theorem f41_35 : x_fetch q_k41 35 = x_lda 36 0 := rfl
theorem t41_35 (C : xF) (s n : Nat) (z : xS) : x_to q_k41 C s (n + 1) 35 z = x_nx q_k41 C s n ((x_lda 36 0) C z) := x_to_at f41_35 C s n z
theorem f41_36 : x_fetch q_k41 36 = x_gf 39 5 7 := rfl
theorem t41_36 (C : xF) (s n : Nat) (z : xS) : x_to q_k41 C s (n + 1) 36 z = x_nx q_k41 C s n ((x_gf 39 5 7) C z) := x_to_at f41_36 C s n z
theorem f41_39 : x_fetch q_k41 39 = x_ast 40 0 (fun x => x) := rfl
theorem t41_39 (C : xF) (s n : Nat) (z : xS) : x_to q_k41 C s (n + 1) 39 z = x_nx q_k41 C s n ((x_ast 40 0 (fun x => x)) C z) := x_to_at f41_39 C s n z
theorem f41_40 : x_fetch q_k41 40 = x_ldi 42 4 := rfl
theorem t41_40 (C : xF) (s n : Nat) (z : xS) : x_to q_k41 C s (n + 1) 40 z = x_nx q_k41 C s n ((x_ldi 42 4) C z) := x_to_at f41_40 C s n z
theorem f41_42 : x_fetch q_k41 42 = x_cl_ 45 2 1 := rfl
theorem t41_42 (C : xF) (s n : Nat) (z : xS) : x_to q_k41 C s (n + 1) 42 z = x_nx q_k41 C s n ((x_cl_ 45 2 1) C z) := x_to_at f41_42 C s n z
theorem f41_45 : x_fetch q_k41 45 = x_st (x_ifeq 104 48) := rfl
theorem t41_45 (C : xF) (s n : Nat) (z : xS) : x_to q_k41 C s (n + 1) 45 z = x_nx q_k41 C s n ((x_st (x_ifeq 104 48)) C z) := x_to_at f41_45 C s n z
theorem f41_48 : x_fetch q_k41 48 = x_ldi 50 4 := rfl
theorem t41_48 (C : xF) (s n : Nat) (z : xS) : x_to q_k41 C s (n + 1) 48 z = x_nx q_k41 C s n ((x_ldi 50 4) C z) := x_to_at f41_48 C s n z
theorem f41_50 : x_fetch q_k41 50 = x_cl_ 53 3 1 := rfl
theorem t41_50 (C : xF) (s n : Nat) (z : xS) : x_to q_k41 C s (n + 1) 50 z = x_nx q_k41 C s n ((x_cl_ 53 3 1) C z) := x_to_at f41_50 C s n z
theorem f41_53 : x_fetch q_k41 53 = x_ldi 54 2 := rfl
theorem t41_53 (C : xF) (s n : Nat) (z : xS) : x_to q_k41 C s (n + 1) 53 z = x_nx q_k41 C s n ((x_ldi 54 2) C z) := x_to_at f41_53 C s n z
theorem f41_54 : x_fetch q_k41 54 = x_st (x_bin 55 (fun a b => a + b)) := rfl
theorem t41_54 (C : xF) (s n : Nat) (z : xS) : x_to q_k41 C s (n + 1) 54 z = x_nx q_k41 C s n ((x_st (x_bin 55 (fun a b => a + b))) C z) := x_to_at f41_54 C s n z
theorem f41_55 : x_fetch q_k41 55 = x_lda 56 0 := rfl
theorem t41_55 (C : xF) (s n : Nat) (z : xS) : x_to q_k41 C s (n + 1) 55 z = x_nx q_k41 C s n ((x_lda 56 0) C z) := x_to_at f41_55 C s n z
theorem f41_56 : x_fetch q_k41 56 = x_gf 59 5 3 := rfl
theorem t41_56 (C : xF) (s n : Nat) (z : xS) : x_to q_k41 C s (n + 1) 56 z = x_nx q_k41 C s n ((x_gf 59 5 3) C z) := x_to_at f41_56 C s n z
theorem f41_59 : x_fetch q_k41 59 = x_aln 60 6 := rfl
theorem t41_59 (C : xF) (s n : Nat) (z : xS) : x_to q_k41 C s (n + 1) 59 z = x_nx q_k41 C s n ((x_aln 60 6) C z) := x_to_at f41_59 C s n z
theorem f41_60 : x_fetch q_k41 60 = x_st (x_push 61 (.int (1))) := rfl
theorem t41_60 (C : xF) (s n : Nat) (z : xS) : x_to q_k41 C s (n + 1) 60 z = x_nx q_k41 C s n ((x_st (x_push 61 (.int (1)))) C z) := x_to_at f41_60 C s n z
theorem f41_61 : x_fetch q_k41 61 = x_st (x_bin 62 (fun a b => a - b)) := rfl
theorem t41_61 (C : xF) (s n : Nat) (z : xS) : x_to q_k41 C s (n + 1) 61 z = x_nx q_k41 C s n ((x_st (x_bin 62 (fun a b => a - b))) C z) := x_to_at f41_61 C s n z
theorem f41_62 : x_fetch q_k41 62 = x_st (x_mm 65 (fun a b => if b < a then b else a)) := rfl
theorem t41_62 (C : xF) (s n : Nat) (z : xS) : x_to q_k41 C s (n + 1) 62 z = x_nx q_k41 C s n ((x_st (x_mm 65 (fun a b => if b < a then b else a))) C z) := x_to_at f41_62 C s n z
theorem f41_65 : x_fetch q_k41 65 = x_sti 67 5 := rfl
theorem t41_65 (C : xF) (s n : Nat) (z : xS) : x_to q_k41 C s (n + 1) 65 z = x_nx q_k41 C s n ((x_sti 67 5) C z) := x_to_at f41_65 C s n z
theorem f41_67 : x_fetch q_k41 67 = x_lda 68 0 := rfl
theorem t41_67 (C : xF) (s n : Nat) (z : xS) : x_to q_k41 C s (n + 1) 67 z = x_nx q_k41 C s n ((x_lda 68 0) C z) := x_to_at f41_67 C s n z
theorem f41_68 : x_fetch q_k41 68 = x_gf 71 5 3 := rfl
theorem t41_68 (C : xF) (s n : Nat) (z : xS) : x_to q_k41 C s (n + 1) 68 z = x_nx q_k41 C s n ((x_gf 71 5 3) C z) := x_to_at f41_68 C s n z
theorem f41_71 : x_fetch q_k41 71 = x_ldi 73 5 := rfl
theorem t41_71 (C : xF) (s n : Nat) (z : xS) : x_to q_k41 C s (n + 1) 71 z = x_nx q_k41 C s n ((x_ldi 73 5) C z) := x_to_at f41_71 C s n z
theorem f41_73 : x_fetch q_k41 73 = x_ald 74 0 := rfl
theorem t41_73 (C : xF) (s n : Nat) (z : xS) : x_to q_k41 C s (n + 1) 73 z = x_nx q_k41 C s n ((x_ald 74 0) C z) := x_to_at f41_73 C s n z
theorem f41_74 : x_fetch q_k41 74 = x_st (x_ifge 88 77) := rfl
theorem t41_74 (C : xF) (s n : Nat) (z : xS) : x_to q_k41 C s (n + 1) 74 z = x_nx q_k41 C s n ((x_st (x_ifge 88 77)) C z) := x_to_at f41_74 C s n z
theorem f41_77 : x_fetch q_k41 77 = x_lda 78 0 := rfl
theorem t41_77 (C : xF) (s n : Nat) (z : xS) : x_to q_k41 C s (n + 1) 77 z = x_nx q_k41 C s n ((x_lda 78 0) C z) := x_to_at f41_77 C s n z
theorem f41_78 : x_fetch q_k41 78 = x_gf 81 5 3 := rfl
theorem t41_78 (C : xF) (s n : Nat) (z : xS) : x_to q_k41 C s (n + 1) 78 z = x_nx q_k41 C s n ((x_gf 81 5 3) C z) := x_to_at f41_78 C s n z
theorem f41_81 : x_fetch q_k41 81 = x_ldi 83 5 := rfl
theorem t41_81 (C : xF) (s n : Nat) (z : xS) : x_to q_k41 C s (n + 1) 81 z = x_nx q_k41 C s n ((x_ldi 83 5) C z) := x_to_at f41_81 C s n z
theorem f41_83 : x_fetch q_k41 83 = x_lda 84 0 := rfl
theorem t41_83 (C : xF) (s n : Nat) (z : xS) : x_to q_k41 C s (n + 1) 83 z = x_nx q_k41 C s n ((x_lda 84 0) C z) := x_to_at f41_83 C s n z
theorem f41_84 : x_fetch q_k41 84 = x_gf 87 5 7 := rfl
theorem t41_84 (C : xF) (s n : Nat) (z : xS) : x_to q_k41 C s (n + 1) 84 z = x_nx q_k41 C s n ((x_gf 87 5 7) C z) := x_to_at f41_84 C s n z
theorem f41_87 : x_fetch q_k41 87 = x_ast 88 0 (fun x => x) := rfl
theorem t41_87 (C : xF) (s n : Nat) (z : xS) : x_to q_k41 C s (n + 1) 87 z = x_nx q_k41 C s n ((x_ast 88 0 (fun x => x)) C z) := x_to_at f41_87 C s n z
theorem f41_88 : x_fetch q_k41 88 = x_lda 89 0 := rfl
theorem t41_88 (C : xF) (s n : Nat) (z : xS) : x_to q_k41 C s (n + 1) 88 z = x_nx q_k41 C s n ((x_lda 89 0) C z) := x_to_at f41_88 C s n z
theorem f41_89 : x_fetch q_k41 89 = x_gf 92 5 2 := rfl
theorem t41_89 (C : xF) (s n : Nat) (z : xS) : x_to q_k41 C s (n + 1) 89 z = x_nx q_k41 C s n ((x_gf 92 5 2) C z) := x_to_at f41_89 C s n z
theorem f41_92 : x_fetch q_k41 92 = x_lda 93 0 := rfl
theorem t41_92 (C : xF) (s n : Nat) (z : xS) : x_to q_k41 C s (n + 1) 92 z = x_nx q_k41 C s n ((x_lda 93 0) C z) := x_to_at f41_92 C s n z
theorem f41_93 : x_fetch q_k41 93 = x_gf 96 5 7 := rfl
theorem t41_93 (C : xF) (s n : Nat) (z : xS) : x_to q_k41 C s (n + 1) 93 z = x_nx q_k41 C s n ((x_gf 96 5 7) C z) := x_to_at f41_93 C s n z
theorem f41_96 : x_fetch q_k41 96 = x_lda 97 0 := rfl
theorem t41_96 (C : xF) (s n : Nat) (z : xS) : x_to q_k41 C s (n + 1) 96 z = x_nx q_k41 C s n ((x_lda 97 0) C z) := x_to_at f41_96 C s n z
theorem f41_97 : x_fetch q_k41 97 = x_gf 100 5 3 := rfl
theorem t41_97 (C : xF) (s n : Nat) (z : xS) : x_to q_k41 C s (n + 1) 97 z = x_nx q_k41 C s n ((x_gf 100 5 3) C z) := x_to_at f41_97 C s n z
theorem f41_100 : x_fetch q_k41 100 = x_ldi 102 5 := rfl
theorem t41_100 (C : xF) (s n : Nat) (z : xS) : x_to q_k41 C s (n + 1) 100 z = x_nx q_k41 C s n ((x_ldi 102 5) C z) := x_to_at f41_100 C s n z
theorem f41_102 : x_fetch q_k41 102 = x_ald 103 0 := rfl
theorem t41_102 (C : xF) (s n : Nat) (z : xS) : x_to q_k41 C s (n + 1) 102 z = x_nx q_k41 C s n ((x_ald 103 0) C z) := x_to_at f41_102 C s n z
theorem f41_103 : x_fetch q_k41 103 = x_ast 104 0 (fun x => x) := rfl
theorem t41_103 (C : xF) (s n : Nat) (z : xS) : x_to q_k41 C s (n + 1) 103 z = x_nx q_k41 C s n ((x_ast 104 0 (fun x => x)) C z) := x_to_at f41_103 C s n z
theorem f41_104 : x_fetch q_k41 104 = x_lda 105 0 := rfl
theorem t41_104 (C : xF) (s n : Nat) (z : xS) : x_to q_k41 C s (n + 1) 104 z = x_nx q_k41 C s n ((x_lda 105 0) C z) := x_to_at f41_104 C s n z
theorem f41_105 : x_fetch q_k41 105 = x_gf 108 5 0 := rfl
theorem t41_105 (C : xF) (s n : Nat) (z : xS) : x_to q_k41 C s (n + 1) 105 z = x_nx q_k41 C s n ((x_gf 108 5 0) C z) := x_to_at f41_105 C s n z
theorem f41_108 : x_fetch q_k41 108 = x_lda 109 0 := rfl
theorem t41_108 (C : xF) (s n : Nat) (z : xS) : x_to q_k41 C s (n + 1) 108 z = x_nx q_k41 C s n ((x_lda 109 0) C z) := x_to_at f41_108 C s n z
theorem f41_109 : x_fetch q_k41 109 = x_gf 112 5 7 := rfl
theorem t41_109 (C : xF) (s n : Nat) (z : xS) : x_to q_k41 C s (n + 1) 109 z = x_nx q_k41 C s n ((x_gf 112 5 7) C z) := x_to_at f41_109 C s n z
theorem f41_112 : x_fetch q_k41 112 = x_ldi 114 4 := rfl
theorem t41_112 (C : xF) (s n : Nat) (z : xS) : x_to q_k41 C s (n + 1) 112 z = x_nx q_k41 C s n ((x_ldi 114 4) C z) := x_to_at f41_112 C s n z
theorem f41_114 : x_fetch q_k41 114 = x_ast 115 0 (fun x => x) := rfl
theorem t41_114 (C : xF) (s n : Nat) (z : xS) : x_to q_k41 C s (n + 1) 114 z = x_nx q_k41 C s n ((x_ast 115 0 (fun x => x)) C z) := x_to_at f41_114 C s n z
theorem f41_115 : x_fetch q_k41 115 = x_lda 116 0 := rfl
theorem t41_115 (C : xF) (s n : Nat) (z : xS) : x_to q_k41 C s (n + 1) 115 z = x_nx q_k41 C s n ((x_lda 116 0) C z) := x_to_at f41_115 C s n z
theorem f41_116 : x_fetch q_k41 116 = x_st (x_dup 117) := rfl
theorem t41_116 (C : xF) (s n : Nat) (z : xS) : x_to q_k41 C s (n + 1) 116 z = x_nx q_k41 C s n ((x_st (x_dup 117)) C z) := x_to_at f41_116 C s n z
theorem f41_117 : x_fetch q_k41 117 = x_gf 120 5 7 := rfl
theorem t41_117 (C : xF) (s n : Nat) (z : xS) : x_to q_k41 C s (n + 1) 117 z = x_nx q_k41 C s n ((x_gf 120 5 7) C z) := x_to_at f41_117 C s n z
theorem f41_120 : x_fetch q_k41 120 = x_st (x_push 121 (.int (1))) := rfl
theorem t41_120 (C : xF) (s n : Nat) (z : xS) : x_to q_k41 C s (n + 1) 120 z = x_nx q_k41 C s n ((x_st (x_push 121 (.int (1)))) C z) := x_to_at f41_120 C s n z
theorem f41_121 : x_fetch q_k41 121 = x_st (x_bin 122 (fun a b => a + b)) := rfl
theorem t41_121 (C : xF) (s n : Nat) (z : xS) : x_to q_k41 C s (n + 1) 121 z = x_nx q_k41 C s n ((x_st (x_bin 122 (fun a b => a + b))) C z) := x_to_at f41_121 C s n z
theorem f41_122 : x_fetch q_k41 122 = x_pf 125 5 7 (.int) := rfl
theorem t41_122 (C : xF) (s n : Nat) (z : xS) : x_to q_k41 C s (n + 1) 122 z = x_nx q_k41 C s n ((x_pf 125 5 7 (.int)) C z) := x_to_at f41_122 C s n z
theorem f41_125 : x_fetch q_k41 125 = x_iinc 128 3 (1) := rfl
theorem t41_125 (C : xF) (s n : Nat) (z : xS) : x_to q_k41 C s (n + 1) 125 z = x_nx q_k41 C s n ((x_iinc 128 3 (1)) C z) := x_to_at f41_125 C s n z
theorem f41_128 : x_fetch q_k41 128 = x_st (x_goto 2) := rfl
theorem t41_128 (C : xF) (s n : Nat) (z : xS) : x_to q_k41 C s (n + 1) 128 z = x_nx q_k41 C s n ((x_st (x_goto 2)) C z) := x_to_at f41_128 C s n z
theorem f41_131 : x_fetch q_k41 131 = x_rv := rfl
theorem t41_131 (C : xF) (s n : Nat) (z : xS) : x_to q_k41 C s (n + 1) 131 z = x_nx q_k41 C s n ((x_rv) C z) := x_to_at f41_131 C s n z
def ksG : List Nat := [16, 17, 19, 20]
def GL (w : Nat → xC) (Q Sy Ro Fs : List Int) : Prop := (∃ wt, w 16 = gO Q.length wt) ∧ w 17 = cI 0 Sy ∧ Sy.length = 80 ∧ w 19 = cI 0 Ro ∧ Ro.length = 80 ∧ (∀ i, 0 ≤ i → i < 80 → 0 ≤ gZ Ro i ∧ gZ Ro i < 80) ∧ w 20 = cI 0 Fs ∧ Fs.length = 52 ∧ (∀ i : Nat, i < Q.length → vs (gZ Sy i) ∧ (pz Q i < 99 ↔ 128 ≤ gZ Sy i) ∧ (¬ pz Q i < 99 → gZ Sy i = vc (pz Q i))) ∧ (∀ i : Nat, i < Q.length → gZ Ro i = if pz Q i < 99 then (Q.idxOf (pz Q i) : Int) else i) ∧ (∀ v : Int, 0 ≤ v → v < 52 → gZ Fs v = if v ∈ Q then (Q.idxOf v : Int) else -1) ∧ Q.length ≤ 80 ∧ ∀ s ∈ Q, 0 ≤ s ∧ s < 204 ∧ (s < 99 → s < 52)
theorem gl_le {w w' : Nat → xC} {N : Nat} {Q Sy Ro Fs Q' Sy' Ro' Fs' : List Int} (f : Fr ksG w w') (a : GL w Q Sy Ro Fs) (b : GL w' Q' Sy' Ro' Fs') : x_le (hp w N) (hp w' N) := hp_le (Nat.le_refl _) (fun j _ => by
  obtain ⟨⟨wt, a1⟩, a2, a3, a4, a5, _, a6, a7, _⟩ := a
  obtain ⟨⟨wt', b1⟩, b2, b3, b4, b5, _, b6, b7, _⟩ := b
  by_cases hj : j ∈ ksG
  · unfold ksG at hj
    simp only [List.mem_cons, List.not_mem_nil, or_false] at hj
    rcases hj with rfl | rfl | rfl | rfl
    · rw [a1, b1]; simp [x_c1, gF]
    · rw [a2, b2]; simp [x_c1, a3, b3]
    · rw [a4, b4]; simp [x_c1, a5, b5]
    · rw [a6, b6]; simp [x_c1, a7, b7]
  · rw [f j hj]
    exact Nat.le_refl _)
theorem m148 {w : Nat → xC} {N a : Nat} {S : List Int} (d : Nat) (hw : w a = cI 0 S) (ha : a < N) (hS : S.length < 10000) (v : Int) : Xc (d + 1) 148 [.ref (a + 3), .int (iZ v)] (hp w N) (none, hp (uH w a (cI 0 (List.replicate S.length v))) N) := by
  refine ⟨9 * S.length + 9, fun F D hF hD => ?_⟩
  obtain ⟨D', rfl⟩ : ∃ D', D = D' + 1 := ⟨D - 1, by omega⟩
  rw [e148 F D' a (hp w N) (S.map iZ) (iZ v) (by rw [hp_get ha, hw]) (by rw [List.length_map]; omega) (by rw [List.length_map]; exact hF), hp_set]
  simp only [cI, List.length_map, List.map_replicate]
theorem pz_app {Q : List Int} {s : Int} {i : Nat} (hi : i < Q.length) : pz (Q ++ [s]) i = pz Q i := by
  unfold pz
  simp only [List.getD_eq_getElem?_getD]
  rw [List.getElem?_append_left hi]
theorem pz_end {Q : List Int} {s : Int} : pz (Q ++ [s]) Q.length = s := by
  unfold pz
  simp [List.getD_eq_getElem?_getD]
theorem idx_app {Q : List Int} {s u : Int} (h : u ∈ Q) : (Q ++ [s]).idxOf u = Q.idxOf u := by
  rw [List.idxOf_append, if_pos h]
theorem idx_end {Q : List Int} {s : Int} (h : ¬ s ∈ Q) : (Q ++ [s]).idxOf s = Q.length := by
  rw [List.idxOf_append, if_neg h]
  simp
theorem GL.step {w w' : Nat → xC} {Q Sy Ro Fs Ro' Fs' : List Int} {s sy : Int} (h : GL w Q Sy Ro Fs) (q80 : Q.length < 80) (hs : 0 ≤ s ∧ s < 204 ∧ (s < 99 → s < 52)) (h1 : ∃ wt, w' 16 = gO ((Q.length : Int) + 1) wt) (h2 : w' 17 = cI 0 (sZ Sy Q.length sy)) (h3 : w' 19 = cI 0 Ro') (h4 : w' 20 = cI 0 Fs')
    (hsy : vs sy ∧ (s < 99 ↔ 128 ≤ sy) ∧ (¬ s < 99 → sy = vc s)) (e3 : Ro' = sZ Ro Q.length (if s < 99 then gZ Fs' s else Q.length)) (e4 : Fs' = if s < 99 ∧ gZ Fs s < 0 then sZ Fs s Q.length else Fs) : GL w' (Q ++ [s]) (sZ Sy Q.length sy) Ro' Fs' := by
  obtain ⟨⟨wt, a1⟩, a2, a3, a4, a5, ar_, a6, a7, a8, a9, a10, a11, a12⟩ := h
  have hl : (Q ++ [s]).length = Q.length + 1 := by simp
  have hF7 : Fs'.length = 52 := by
    rw [e4]
    split
    · rw [sZ_len]; exact a7
    · exact a7
  have hFs : ∀ v : Int, 0 ≤ v → v < 52 → gZ Fs' v = if v ∈ Q ++ [s] then ((Q ++ [s]).idxOf v : Int) else -1 := fun v v0 v1 => by
    have hv := a10 v v0 v1
    have ex_ : gZ Fs' v = if s < 99 ∧ gZ Fs s < 0 ∧ s = v then (Q.length : Int) else gZ Fs v := by
      rw [e4]
      by_cases hc : s < 99 ∧ gZ Fs s < 0
      · have := hs.2.2 hc.1
        rw [if_pos hc, gZ_sZ (by omega) (by omega) v0]
        by_cases hsv : s = v
        · rw [if_pos hsv, if_pos ⟨hc.1, hc.2, hsv⟩]
        · rw [if_neg hsv, if_neg (fun z => hsv z.2.2)]
      · rw [if_neg hc, if_neg (fun z => hc ⟨z.1, z.2.1⟩)]
    rw [ex_]
    by_cases hvQ : v ∈ Q
    · rw [if_pos hvQ] at hv
      rw [if_neg (fun z => by rw [z.2.2] at z; omega), if_pos (List.mem_append_left _ hvQ), idx_app hvQ, hv]
    · rw [if_neg hvQ] at hv
      by_cases hsv : s = v
      · rw [hsv, if_pos ⟨by omega, by omega, rfl⟩, if_pos (by simp), idx_end hvQ]
      · rw [if_neg (fun z => hsv z.2.2), if_neg (by simp; exact ⟨hvQ, fun z => hsv z.symm⟩), hv]
  have hmem : s ∈ Q ++ [s] := by simp
  have hiv : s < 99 → gZ Fs' s = ((Q ++ [s]).idxOf s : Int) := fun z => by
    have := hFs s hs.1 (hs.2.2 z)
    rw [if_pos hmem] at this
    exact this
  have hix : (Q ++ [s]).idxOf s < Q.length + 1 := by
    have := List.idxOf_lt_length_iff.mpr hmem
    rw [hl] at this
    exact this
  refine ⟨?_, h2, by rw [sZ_len]; exact a3, h3, by rw [e3, sZ_len]; exact a5, fun i i0 i1 => ?_, h4, hF7, fun i hi => ?_, fun i hi => ?_, hFs, by rw [hl]; omega, fun u hu => ?_⟩
  · obtain ⟨wt', h1⟩ := h1
    exact ⟨wt', by rw [hl]; exact h1⟩
  · rw [e3, gZ_sZ (by omega) (by omega) i0]
    split
    · split
      · rename_i z
        rw [hiv z]
        omega
      · omega
    · exact ar_ i i0 i1
  · rw [hl] at hi
    rw [gZ_sZ (by omega) (by omega) (by omega)]
    by_cases he : i = Q.length
    · rw [he, if_pos rfl, pz_end]
      exact hsy
    · rw [if_neg (by omega), pz_app (by omega)]
      exact a8 i (by omega)
  · rw [hl] at hi
    rw [e3, gZ_sZ (by omega) (by omega) (by omega)]
    by_cases he : i = Q.length
    · rw [he, if_pos rfl, pz_end]
      split
      · rename_i z
        exact hiv z
      · rfl
    · rw [if_neg (by omega), pz_app (by omega), a9 i (by omega)]
      split
      · rw [idx_app (pz_mem (by omega))]
      · rfl
  · rcases List.mem_append.mp hu with hu | hu
    · exact a12 u hu
    · rw [List.mem_singleton] at hu
      rw [hu]; exact hs
section CY
variable {N : Nat} {D : List (Int × List Int)} {a : Nat} {S E B : List Int} {c o : Int}
set_option maxHeartbeats 2000000 in
theorem l41 (d : Nat) (hN : 53 ≤ N) (sh : Int) (s0 : 0 ≤ sh) (s9 : sh ≤ 26) (ha : ∀ j, a ≤ j → j ≤ a + 3 → ¬ j ∈ ksG) (hfN : fN N a S E B) (hW : ∀ j : Nat, j < (flt D).length → gZ S j = vc ((flt D).getD j 0)) (lS : (flt D).length ≤ S.length) (hs : ∀ s ∈ flt D, 0 ≤ s ∧ s < 204 ∧ (s < 99 → s < 26)) :
    ∀ (t : List Int) (k : Nat) (Q Sy Ro Fs : List Int) (w : Nat → xC) (lv : xL), (flt D).drop k = t → k + t.length = (flt D).length → Q.length + t.length ≤ 80 → GL w Q Sy Ro Fs → fo w a S E B c (flt D).length o → c1 lv → x_lk lv 0 = some (.ref 19) → x_lk lv 1 = some (.ref (a + 3)) → x_lk lv 2 = some (.int (iZ sh)) → x_lk lv 3 = some (.int (iZ (k : Int))) →
    ∃ (w' : Nat → xC) (Sy' Ro' Fs' : List Int), Fr ksG w w' ∧ GL w' (Q ++ ren (fun v => v + sh) t) Sy' Ro' Fs' ∧ Gx q_k41 (d + 1) 2 (lv, [], hp w N) (none, hp w' N) := by
  intro t
  induction t with
  | nil =>
    intro k Q Sy Ro Fs w lv hk hkl hq hL hf hc l0 l1 l2 l3
    have hfa := hf.1
    have na := hfN.1
    have nS := hfN.2.1
    refine ⟨w, Sy, Ro, Fs, Fr.rf _ _, by rw [show ren (fun v => v + sh) [] = [] from rfl, List.append_nil]; exact hL, Gx.fin 20 Cs.tt (fun X _ => ?_)⟩
    obtain ⟨n, hn⟩ : ∃ n : Int, n = ((flt D).length : Int) := ⟨_, rfl⟩
    obtain ⟨k', hk'⟩ : ∃ k' : Int, k' = (k : Int) := ⟨_, rfl⟩
    rw [← hn] at hfa
    rw [← hk'] at l3
    simp only [List.length_nil] at hkl
    have b1 : n ≤ k' := by omega
    have b2 : k' ≤ 10000 := by omega
    have b3 : 0 ≤ n := by omega
    simp (disch := first | (refine c1_id ?_; assumption) | (refine c1_st rfl ?_; repeat (first | assumption | refine c1_st rfl ?_)) | omega) [nx_l, nx_r, nx_n, x_st, x_push, x_bin, x_div, x_un, x_dup, x_pop, x_dup2, x_goto, x_ifeq, x_ifne, x_iflt, x_ifge, x_ifgt, x_ifle, x_iceq, x_icne, x_iclt, x_icge, x_icgt, x_icle, x_ifnull, x_ifnonnull, x_ldi, x_lda, x_sti, x_sta, x_iinc, x_gf, x_pf, x_ald, x_ast, x_aln, x_len, x_cl_, x_cv, x_cs, x_rc, x_r0, x_isT, x_oi, x_rv, x_ri, x_ra, Value.category, t41_0, t41_1, t41_2, t41_3, t41_4, t41_7, t41_10, t41_11, t41_14, t41_16, t41_19, t41_20, t41_23, t41_24, t41_25, t41_27, t41_28, t41_31, t41_32, t41_35, t41_36, t41_39, t41_40, t41_42, t41_45, t41_48, t41_50, t41_53, t41_54, t41_55, t41_56, t41_59, t41_60, t41_61, t41_62, t41_65, t41_67, t41_68, t41_71, t41_73, t41_74, t41_77, t41_78, t41_81, t41_83, t41_84, t41_87, t41_88, t41_89, t41_92, t41_93, t41_96, t41_97, t41_100, t41_102, t41_103, t41_104, t41_105, t41_108, t41_109, t41_112, t41_114, t41_115, t41_116, t41_117, t41_120, t41_121, t41_122, t41_125, t41_128, t41_131, lk_s, hp_get, hp_set, uH_at, uH_ne, uH_upd, uH_swap, iZ_add, iZ_sub, iZ_mul, iZ_neg, iZ_lt, iZ_le, iZ_eq, iZ_div, iZ_of, ix_Z, gZ_map, gZ_mapI, gZ_map', le_0, le_s, sZ_map, sZ_len, bZ_0, bZ_inj, bZ_t, bZ_f, nr_i, nr_0, nr_1, nr_b, ft_i, ft_b, ft_0, ft_1, zl_0, zl_1, zl_80, l0, l1, l3, hfa, b1, -List.filter_filter, -List.getElem?_map, -List.getD_eq_getElem?_getD]
  | cons s t ih =>
    intro k Q Sy Ro Fs w lv hk hkl hq hL hf hc l0 l1 l2 l3
    simp only [List.length_cons] at hkl hq
    have na := hfN.1
    have nS := hfN.2.1
    have hkD : k < (flt D).length := by omega
    have hdr := drop_gt hkD
    rw [hk] at hdr
    injection hdr with hd1 hd2
    have hsk := hs s (by rw [hd1]; exact getD_mem hkD)
    have hsy := hW k hkD
    rw [← hd1] at hsy
    have sgs : sgV s := ⟨hsk.1, hsk.2.1, fun z => by have := hsk.2.2 z; omega⟩
    have hvr := vc_rng sgs
    obtain ⟨⟨wt, hg⟩, g17, nSy, g19, nRo, hRr, g20, nFs, hSy, hRo, hFs, q80, hQs⟩ := id hL
    obtain ⟨hfa, hfs, hfe, hfg⟩ := id hf
    obtain ⟨n, hn⟩ : ∃ n : Int, n = (Q.length : Int) := ⟨_, rfl⟩
    obtain ⟨m, hm⟩ : ∃ m : Int, m = ((flt D).length : Int) := ⟨_, rfl⟩
    obtain ⟨k', hk'⟩ : ∃ k' : Int, k' = (k : Int) := ⟨_, rfl⟩
    obtain ⟨sy, hsy'⟩ : ∃ sy : Int, sy = vc s := ⟨_, rfl⟩
    rw [← hn] at hg
    rw [← hm] at hfa
    rw [← hk'] at hsy l3
    rw [← hsy'] at hsy hvr
    have b1 : ¬ m ≤ k' := by omega
    have b2 : k' < 10000 := by omega
    have b3 : 0 ≤ k' := by omega
    have b4 : m < 10000 := by omega
    have b5 : ¬ (80 : Int) ≤ n := by omega
    have b6 : 0 ≤ n := by omega
    have b7 : n < 80 := by omega
    have b8 : k' < (S.length : Int) := by omega
    have y0 := hvr.1
    have y1 := hvr.2
    obtain ⟨w1, hw1⟩ : ∃ w1, w1 = uH w 19 (cI 0 (sZ Ro n n)) := ⟨_, rfl⟩
    have C4 : c1 ((4, .int (iZ sy)) :: lv.filter (x_keep 4)) := c1_st (i := 4) (v := .int (iZ sy)) rfl hc
    have g40 : ∀ res, Gx q_k41 (d + 1) 40 ((4, .int (iZ sy)) :: lv.filter (x_keep 4), [], hp w1 N) res → Gx q_k41 (d + 1) 2 (lv, [], hp w N) res := fun res hres => by
      refine Gx.run 60 Cs.tt (fun X _ => ?_) hres
      rw [hw1]
      simp (disch := first | (refine c1_id ?_; assumption) | (refine c1_st rfl ?_; repeat (first | assumption | refine c1_st rfl ?_)) | omega) [nx_l, nx_r, nx_n, x_st, x_push, x_bin, x_div, x_un, x_dup, x_pop, x_dup2, x_goto, x_ifeq, x_ifne, x_iflt, x_ifge, x_ifgt, x_ifle, x_iceq, x_icne, x_iclt, x_icge, x_icgt, x_icle, x_ifnull, x_ifnonnull, x_ldi, x_lda, x_sti, x_sta, x_iinc, x_gf, x_pf, x_ald, x_ast, x_aln, x_len, x_cl_, x_cv, x_cs, x_rc, x_r0, x_isT, x_oi, x_rv, x_ri, x_ra, Value.category, t41_0, t41_1, t41_2, t41_3, t41_4, t41_7, t41_10, t41_11, t41_14, t41_16, t41_19, t41_20, t41_23, t41_24, t41_25, t41_27, t41_28, t41_31, t41_32, t41_35, t41_36, t41_39, t41_40, t41_42, t41_45, t41_48, t41_50, t41_53, t41_54, t41_55, t41_56, t41_59, t41_60, t41_61, t41_62, t41_65, t41_67, t41_68, t41_71, t41_73, t41_74, t41_77, t41_78, t41_81, t41_83, t41_84, t41_87, t41_88, t41_89, t41_92, t41_93, t41_96, t41_97, t41_100, t41_102, t41_103, t41_104, t41_105, t41_108, t41_109, t41_112, t41_114, t41_115, t41_116, t41_117, t41_120, t41_121, t41_122, t41_125, t41_128, t41_131, lk_s, hp_get, hp_set, uH_at, uH_ne, uH_upd, uH_swap, iZ_add, iZ_sub, iZ_mul, iZ_neg, iZ_lt, iZ_le, iZ_eq, iZ_div, iZ_of, ix_Z, gZ_map, gZ_mapI, gZ_map', le_0, le_s, sZ_map, sZ_len, bZ_0, bZ_inj, bZ_t, bZ_f, nr_i, nr_0, nr_1, nr_b, ft_i, ft_b, ft_0, ft_1, zl_0, zl_1, zl_80, l0, l1, l3, hfa, hfs, hg, g19, hsy, b1, b5, gO, gF, -List.filter_filter, -List.getElem?_map, -List.getD_eq_getElem?_getD]
    have k0 : x_lk ((4, .int (iZ sy)) :: lv.filter (x_keep 4)) 0 = some (.ref 19) := by rw [lk_s hc]; exact l0
    have k1 : x_lk ((4, .int (iZ sy)) :: lv.filter (x_keep 4)) 1 = some (.ref (a + 3)) := by rw [lk_s hc]; exact l1
    have k2 : x_lk ((4, .int (iZ sy)) :: lv.filter (x_keep 4)) 2 = some (.int (iZ sh)) := by rw [lk_s hc]; exact l2
    have k3 : x_lk ((4, .int (iZ sy)) :: lv.filter (x_keep 4)) 3 = some (.int (iZ k')) := by rw [lk_s hc]; exact l3
    have k4 : x_lk ((4, .int (iZ sy)) :: lv.filter (x_keep 4)) 4 = some (.int (iZ sy)) := by rw [lk_s hc]; rfl
    generalize ((4, .int (iZ sy)) :: lv.filter (x_keep 4) : xL) = lv4 at C4 g40 k0 k1 k2 k3 k4
    have hg1 : w1 16 = gO n wt := by rw [hw1, uH_ne (by decide)]; exact hg
    have h171 : w1 17 = cI 0 Sy := by rw [hw1, uH_ne (by decide)]; exact g17
    have h191 : w1 19 = cI 0 (sZ Ro n n) := by rw [hw1, uH_at]
    have h201 : w1 20 = cI 0 Fs := by rw [hw1, uH_ne (by decide)]; exact g20
    have F1 : Fr ksG w w1 := by rw [hw1]; exact (Fr.rf _ _).up (by decide)
    have X2 := m2 d w1 N sy (by omega) (by omega)
    have nRo1 : (sZ Ro n n).length = 80 := by rw [sZ_len]; exact nRo
    have fin : ∀ (w2 : Nat → xC) (Ro2 Fs2 : List Int) (lv2 : xL), Fr ksG w w2 → w2 16 = gO (n + 1) wt → w2 17 = cI 0 (sZ Sy n sy) → w2 19 = cI 0 Ro2 → w2 20 = cI 0 Fs2 → Ro2 = sZ Ro n (if s < 99 then gZ Fs2 (s + sh) else n) → Fs2 = (if s < 99 ∧ gZ Fs (s + sh) < 0 then sZ Fs (s + sh) n else Fs) → c1 lv2 → x_lk lv2 0 = some (.ref 19) → x_lk lv2 1 = some (.ref (a + 3)) → x_lk lv2 2 = some (.int (iZ sh)) → x_lk lv2 3 = some (.int (iZ (k' + 1))) → (∀ res, Gx q_k41 (d + 1) 2 (lv2, [], hp w2 N) res → Gx q_k41 (d + 1) 2 (lv, [], hp w N) res) →
        ∃ (w' : Nat → xC) (Sy' Ro' Fs' : List Int), Fr ksG w w' ∧ GL w' (Q ++ ren (fun v => v + sh) (s :: t)) Sy' Ro' Fs' ∧ Gx q_k41 (d + 1) 2 (lv, [], hp w N) (none, hp w' N) := fun w2 Ro2 Fs2 lv2 F2 e1 e2 e3 e4 e5 e6 hc2 p0 p1 p2 p3 hrun => by
      rw [hn] at e1 e2 e5 e6
      have er : ren (fun v => v + sh) (s :: t) = (if s < 99 then s + sh else s) :: ren (fun v => v + sh) t := rfl
      have G2 : GL w2 (Q ++ [if s < 99 then s + sh else s]) (sZ Sy Q.length sy) Ro2 Fs2 := by
        refine hL.step (by omega) ?_ ⟨wt, e1⟩ e2 e3 e4 ?_ ?_ ?_
        · split
          · rename_i z
            have := hsk.2.2 z
            exact ⟨by omega, by omega, fun _ => by omega⟩
          · exact ⟨hsk.1, hsk.2.1, fun z => by omega⟩
        · rw [hsy']
          refine ⟨vs_vc sgs, ?_, fun z => ?_⟩
          · unfold vc
            by_cases z : s < 99
            · have := hsk.2.2 z
              rw [if_pos z, if_pos z]
              omega
            · rw [if_neg z, if_neg z]
              split
              · omega
              · omega
          · by_cases z' : s < 99
            · have := hsk.2.2 z'
              rw [if_pos z'] at z
              omega
            · rw [if_neg z']
        · rw [e5]
          by_cases z : s < 99
          · have := hsk.2.2 z
            rw [if_pos z, if_pos z, if_pos (by omega)]
          · rw [if_neg z, if_neg z, if_neg z]
        · rw [e6]
          by_cases z : s < 99
          · have := hsk.2.2 z
            rw [if_pos z]
            by_cases z2 : gZ Fs (s + sh) < 0
            · rw [if_pos ⟨z, z2⟩, if_pos ⟨by omega, z2⟩]
            · rw [if_neg (fun q => z2 q.2), if_neg (fun q => z2 q.2)]
          · rw [if_neg (fun q => z q.1), if_neg z, if_neg (fun q => z q.1)]
      obtain ⟨w', Sy', Ro', Fs', i1, i2, i3⟩ := ih (k + 1) _ _ Ro2 Fs2 w2 lv2 hd2.symm (by omega) (by simp; omega) G2 ⟨(F2 a (ha a (by omega) (by omega))).trans hf.1, (F2 (a + 1) (ha _ (by omega) (by omega))).trans hfs, (F2 (a + 2) (ha _ (by omega) (by omega))).trans hfe, (F2 (a + 3) (ha _ (by omega) (by omega))).trans hfg⟩ hc2 p0 p1 p2 (by rw [p3, hk']; rfl)
      refine ⟨w', Sy', Ro', Fs', F2.tr i1, ?_, hrun _ i3⟩
      rw [er]
      rw [List.append_assoc] at i2
      exact i2
    by_cases hv : s < 99
    · have hv26 := hsk.2.2 hv
      have esy : sy = 128 + 4 * s := by rw [hsy']; unfold vc; rw [if_pos hv]
      rw [decide_eq_true (by omega), bZ_t] at X2
      have X3 := m3 d w1 N sy (by omega) (by omega)
      rw [show (sy - 128) / 4 = s by omega] at X3
      obtain ⟨v, hvv⟩ : ∃ v : Int, v = s + sh := ⟨_, rfl⟩
      have v0 : 0 ≤ v := by omega
      have v1 : v < 52 := by omega
      have v2 : ¬ (51 : Int) < v := by omega
      have ev : s + sh = v := hvv.symm
      have hFv := hFs v v0 v1
      have hFr : -1 ≤ gZ Fs v ∧ gZ Fs v < 80 := by
        rw [hFv]
        split
        · rename_i z
          have := List.idxOf_lt_length_iff.mpr z
          omega
        · omega
      have r0 := hFr.1
      have r1 := hFr.2
      have C5 := c1_st (i := 5) (v := .int (iZ v)) rfl C4
      have C3 := c1_st (i := 3) (v := .int (iZ (k' + 1))) rfl C5
      by_cases hneg : gZ Fs v < 0
      · have es : sZ (sZ Ro n n) n n = sZ Ro n n := by
          unfold sZ
          rw [List.set_set]
        have eg : gZ (sZ Fs v n) v = n := by rw [gZ_sZ v0 (by omega) v0, if_pos rfl]
        refine fin (uH (uH (uH (uH w1 20 (cI 0 (sZ Fs v n))) 19 (cI 0 (sZ (sZ Ro n n) n n))) 17 (cI 0 (sZ Sy n sy))) 16 (gO (n + 1) wt)) (sZ (sZ Ro n n) n n) (sZ Fs v n) _ ((((F1.up (by decide)).up (by decide)).up (by decide)).up (by decide)) (uH_at _ _ _) (by rw [uH_ne (by decide), uH_at]) (by rw [uH_ne (by decide), uH_ne (by decide), uH_at]) (by rw [uH_ne (by decide), uH_ne (by decide), uH_ne (by decide), uH_at]) (by rw [es, if_pos hv, ev, eg]) (by rw [ev, if_pos ⟨hv, hneg⟩]) C3 (by rw [lk_s C5, lk_s C4]; exact k0) (by rw [lk_s C5, lk_s C4]; exact k1) (by rw [lk_s C5, lk_s C4]; exact k2) (by rw [lk_s C5]; rfl) (fun res hres => g40 _ (Gx.run 90 (X2.and X3) (fun X mm => ?_) hres))
        obtain ⟨mm2, mm3⟩ := mm
        have b9 : ¬ 0 ≤ gZ Fs v := by omega
        simp (disch := first | (refine c1_id ?_; assumption) | (refine c1_st rfl ?_; repeat (first | assumption | refine c1_st rfl ?_)) | omega) [nx_l, nx_r, nx_n, x_st, x_push, x_bin, x_div, x_un, x_dup, x_pop, x_dup2, x_goto, x_ifeq, x_ifne, x_iflt, x_ifge, x_ifgt, x_ifle, x_iceq, x_icne, x_iclt, x_icge, x_icgt, x_icle, x_ifnull, x_ifnonnull, x_ldi, x_lda, x_sti, x_sta, x_iinc, x_gf, x_pf, x_ald, x_ast, x_aln, x_len, x_cl_, x_cv, x_cs, x_rc, x_r0, x_isT, x_oi, x_rv, x_ri, x_ra, Value.category, t41_0, t41_1, t41_2, t41_3, t41_4, t41_7, t41_10, t41_11, t41_14, t41_16, t41_19, t41_20, t41_23, t41_24, t41_25, t41_27, t41_28, t41_31, t41_32, t41_35, t41_36, t41_39, t41_40, t41_42, t41_45, t41_48, t41_50, t41_53, t41_54, t41_55, t41_56, t41_59, t41_60, t41_61, t41_62, t41_65, t41_67, t41_68, t41_71, t41_73, t41_74, t41_77, t41_78, t41_81, t41_83, t41_84, t41_87, t41_88, t41_89, t41_92, t41_93, t41_96, t41_97, t41_100, t41_102, t41_103, t41_104, t41_105, t41_108, t41_109, t41_112, t41_114, t41_115, t41_116, t41_117, t41_120, t41_121, t41_122, t41_125, t41_128, t41_131, lk_s, hp_get, hp_set, uH_at, uH_ne, uH_upd, uH_swap, iZ_add, iZ_sub, iZ_mul, iZ_neg, iZ_lt, iZ_le, iZ_eq, iZ_div, iZ_of, ix_Z, gZ_map, gZ_mapI, gZ_map', le_0, le_s, sZ_map, sZ_len, bZ_0, bZ_inj, bZ_t, bZ_f, nr_i, nr_0, nr_1, nr_b, ft_i, ft_b, ft_0, ft_1, zl_0, zl_1, zl_80, k0, k1, k2, k3, k4, hg1, h171, h191, h201, nFs, nSy, nRo, nRo1, ev, v2, b9, eg, mm2, mm3, gO, gF, x_mm, -List.filter_filter, -List.getElem?_map, -List.getD_eq_getElem?_getD]
      · have es : sZ (sZ Ro n n) n (gZ Fs v) = sZ Ro n (gZ Fs v) := by
          unfold sZ
          rw [List.set_set]
        refine fin (uH (uH (uH w1 19 (cI 0 (sZ (sZ Ro n n) n (gZ Fs v)))) 17 (cI 0 (sZ Sy n sy))) 16 (gO (n + 1) wt)) (sZ (sZ Ro n n) n (gZ Fs v)) Fs _ (((F1.up (by decide)).up (by decide)).up (by decide)) (uH_at _ _ _) (by rw [uH_ne (by decide), uH_at]) (by rw [uH_ne (by decide), uH_ne (by decide), uH_at]) (by rw [uH_ne (by decide), uH_ne (by decide), uH_ne (by decide)]; exact h201) (by rw [es, if_pos hv, ev]) (by rw [ev, if_neg (fun z => hneg z.2)]) C3 (by rw [lk_s C5, lk_s C4]; exact k0) (by rw [lk_s C5, lk_s C4]; exact k1) (by rw [lk_s C5, lk_s C4]; exact k2) (by rw [lk_s C5]; rfl) (fun res hres => g40 _ (Gx.run 90 (X2.and X3) (fun X mm => ?_) hres))
        obtain ⟨mm2, mm3⟩ := mm
        have b9 : 0 ≤ gZ Fs v := by omega
        simp (disch := first | (refine c1_id ?_; assumption) | (refine c1_st rfl ?_; repeat (first | assumption | refine c1_st rfl ?_)) | omega) [nx_l, nx_r, nx_n, x_st, x_push, x_bin, x_div, x_un, x_dup, x_pop, x_dup2, x_goto, x_ifeq, x_ifne, x_iflt, x_ifge, x_ifgt, x_ifle, x_iceq, x_icne, x_iclt, x_icge, x_icgt, x_icle, x_ifnull, x_ifnonnull, x_ldi, x_lda, x_sti, x_sta, x_iinc, x_gf, x_pf, x_ald, x_ast, x_aln, x_len, x_cl_, x_cv, x_cs, x_rc, x_r0, x_isT, x_oi, x_rv, x_ri, x_ra, Value.category, t41_0, t41_1, t41_2, t41_3, t41_4, t41_7, t41_10, t41_11, t41_14, t41_16, t41_19, t41_20, t41_23, t41_24, t41_25, t41_27, t41_28, t41_31, t41_32, t41_35, t41_36, t41_39, t41_40, t41_42, t41_45, t41_48, t41_50, t41_53, t41_54, t41_55, t41_56, t41_59, t41_60, t41_61, t41_62, t41_65, t41_67, t41_68, t41_71, t41_73, t41_74, t41_77, t41_78, t41_81, t41_83, t41_84, t41_87, t41_88, t41_89, t41_92, t41_93, t41_96, t41_97, t41_100, t41_102, t41_103, t41_104, t41_105, t41_108, t41_109, t41_112, t41_114, t41_115, t41_116, t41_117, t41_120, t41_121, t41_122, t41_125, t41_128, t41_131, lk_s, hp_get, hp_set, uH_at, uH_ne, uH_upd, uH_swap, iZ_add, iZ_sub, iZ_mul, iZ_neg, iZ_lt, iZ_le, iZ_eq, iZ_div, iZ_of, ix_Z, gZ_map, gZ_mapI, gZ_map', le_0, le_s, sZ_map, sZ_len, bZ_0, bZ_inj, bZ_t, bZ_f, nr_i, nr_0, nr_1, nr_b, ft_i, ft_b, ft_0, ft_1, zl_0, zl_1, zl_80, k0, k1, k2, k3, k4, hg1, h171, h191, h201, nFs, nSy, nRo, nRo1, ev, v2, b9, mm2, mm3, gO, gF, x_mm, -List.filter_filter, -List.getElem?_map, -List.getD_eq_getElem?_getD]
    · have esy : sy < 128 := by
        rw [hsy']; unfold vc; rw [if_neg hv]
        split
        · omega
        · omega
      rw [decide_eq_false (by omega), bZ_f] at X2
      have C3 := c1_st (i := 3) (v := .int (iZ (k' + 1))) rfl C4
      refine fin (uH (uH w1 17 (cI 0 (sZ Sy n sy))) 16 (gO (n + 1) wt)) (sZ Ro n n) Fs _ ((F1.up (by decide)).up (by decide)) (uH_at _ _ _) (by rw [uH_ne (by decide), uH_at]) (by rw [uH_ne (by decide), uH_ne (by decide)]; exact h191) (by rw [uH_ne (by decide), uH_ne (by decide)]; exact h201) (by rw [if_neg hv]) (by rw [if_neg (fun z => hv z.1)]) C3 (by rw [lk_s C4]; exact k0) (by rw [lk_s C4]; exact k1) (by rw [lk_s C4]; exact k2) (by rw [lk_s C4]; rfl) (fun res hres => g40 _ (Gx.run 90 X2 (fun X mm => ?_) hres))
      simp (disch := first | (refine c1_id ?_; assumption) | (refine c1_st rfl ?_; repeat (first | assumption | refine c1_st rfl ?_)) | omega) [nx_l, nx_r, nx_n, x_st, x_push, x_bin, x_div, x_un, x_dup, x_pop, x_dup2, x_goto, x_ifeq, x_ifne, x_iflt, x_ifge, x_ifgt, x_ifle, x_iceq, x_icne, x_iclt, x_icge, x_icgt, x_icle, x_ifnull, x_ifnonnull, x_ldi, x_lda, x_sti, x_sta, x_iinc, x_gf, x_pf, x_ald, x_ast, x_aln, x_len, x_cl_, x_cv, x_cs, x_rc, x_r0, x_isT, x_oi, x_rv, x_ri, x_ra, Value.category, t41_0, t41_1, t41_2, t41_3, t41_4, t41_7, t41_10, t41_11, t41_14, t41_16, t41_19, t41_20, t41_23, t41_24, t41_25, t41_27, t41_28, t41_31, t41_32, t41_35, t41_36, t41_39, t41_40, t41_42, t41_45, t41_48, t41_50, t41_53, t41_54, t41_55, t41_56, t41_59, t41_60, t41_61, t41_62, t41_65, t41_67, t41_68, t41_71, t41_73, t41_74, t41_77, t41_78, t41_81, t41_83, t41_84, t41_87, t41_88, t41_89, t41_92, t41_93, t41_96, t41_97, t41_100, t41_102, t41_103, t41_104, t41_105, t41_108, t41_109, t41_112, t41_114, t41_115, t41_116, t41_117, t41_120, t41_121, t41_122, t41_125, t41_128, t41_131, lk_s, hp_get, hp_set, uH_at, uH_ne, uH_upd, uH_swap, iZ_add, iZ_sub, iZ_mul, iZ_neg, iZ_lt, iZ_le, iZ_eq, iZ_div, iZ_of, ix_Z, gZ_map, gZ_mapI, gZ_map', le_0, le_s, sZ_map, sZ_len, bZ_0, bZ_inj, bZ_t, bZ_f, nr_i, nr_0, nr_1, nr_b, ft_i, ft_b, ft_0, ft_1, zl_0, zl_1, zl_80, k0, k1, k2, k3, k4, hg1, h171, h191, h201, nFs, nSy, nRo, nRo1, mm, gO, gF, -List.filter_filter, -List.getElem?_map, -List.getD_eq_getElem?_getD]
theorem m41 (d : Nat) (hN : 53 ≤ N) (sh : Int) (s0 : 0 ≤ sh) (s9 : sh ≤ 26) (ha : ∀ j, a ≤ j → j ≤ a + 3 → ¬ j ∈ ksG) (hfN : fN N a S E B) (hW : FW D S E B) (lS : (flt D).length ≤ S.length) (hs : ∀ s ∈ flt D, 0 ≤ s ∧ s < 204 ∧ (s < 99 → s < 26)) {Q Sy Ro Fs : List Int} {w : Nat → xC} (hq : Q.length + (flt D).length ≤ 80) (hL : GL w Q Sy Ro Fs) (hf : fo w a S E B c (flt D).length o) :
    ∃ (w' : Nat → xC) (Sy' Ro' Fs' : List Int), Fr ksG w w' ∧ GL w' (Q ++ ren (fun v => v + sh) (flt D)) Sy' Ro' Fs' ∧ Xc (d + 2) 41 [.ref 19, .ref (a + 3), .int (iZ sh)] (hp w N) (none, hp w' N) := by
  have hc : c1 (lv_args 0 [.ref 19, .ref (a + 3), .int (iZ sh)]) := by simp [c1, lv_args, Value.category]
  have l0 : x_lk (lv_args 0 [.ref 19, .ref (a + 3), .int (iZ sh)]) 0 = some (.ref 19) := rfl
  have l1 : x_lk (lv_args 0 [.ref 19, .ref (a + 3), .int (iZ sh)]) 1 = some (.ref (a + 3)) := rfl
  have l2 : x_lk (lv_args 0 [.ref 19, .ref (a + 3), .int (iZ sh)]) 2 = some (.int (iZ sh)) := rfl
  have C3 := c1_st (i := 3) (v := .int (iZ 0)) rfl hc
  obtain ⟨w', Sy', Ro', Fs', i1, i2, i3⟩ := l41 d hN sh s0 s9 ha hfN hW.1 lS hs (flt D) 0 Q Sy Ro Fs w _ rfl (by omega) hq hL hf C3 (by rw [lk_s hc]; exact l0) (by rw [lk_s hc]; exact l1) (by rw [lk_s hc]; exact l2) (by rw [lk_s hc]; rfl)
  refine ⟨w', Sy', Ro', Fs', i1, i2, Xc.of rfl (by simp [lg_sl, Value.category]) (Gx.run 10 Cs.tt (fun X _ => ?_) i3) (gl_le i1 hL i2)⟩
  generalize lv_args 0 [.ref 19, .ref (a + 3), .int (iZ sh)] = lv at hc l0 l1 l2
  simp (disch := first | (refine c1_id ?_; assumption) | (refine c1_st rfl ?_; repeat (first | assumption | refine c1_st rfl ?_)) | omega) [nx_l, nx_r, nx_n, x_st, x_push, x_bin, x_div, x_un, x_dup, x_pop, x_dup2, x_goto, x_ifeq, x_ifne, x_iflt, x_ifge, x_ifgt, x_ifle, x_iceq, x_icne, x_iclt, x_icge, x_icgt, x_icle, x_ifnull, x_ifnonnull, x_ldi, x_lda, x_sti, x_sta, x_iinc, x_gf, x_pf, x_ald, x_ast, x_aln, x_len, x_cl_, x_cv, x_cs, x_rc, x_r0, x_isT, x_oi, x_rv, x_ri, x_ra, Value.category, t41_0, t41_1, t41_2, t41_3, t41_4, t41_7, t41_10, t41_11, t41_14, t41_16, t41_19, t41_20, t41_23, t41_24, t41_25, t41_27, t41_28, t41_31, t41_32, t41_35, t41_36, t41_39, t41_40, t41_42, t41_45, t41_48, t41_50, t41_53, t41_54, t41_55, t41_56, t41_59, t41_60, t41_61, t41_62, t41_65, t41_67, t41_68, t41_71, t41_73, t41_74, t41_77, t41_78, t41_81, t41_83, t41_84, t41_87, t41_88, t41_89, t41_92, t41_93, t41_96, t41_97, t41_100, t41_102, t41_103, t41_104, t41_105, t41_108, t41_109, t41_112, t41_114, t41_115, t41_116, t41_117, t41_120, t41_121, t41_122, t41_125, t41_128, t41_131, lk_s, hp_get, hp_set, uH_at, uH_ne, uH_upd, uH_swap, iZ_add, iZ_sub, iZ_mul, iZ_neg, iZ_lt, iZ_le, iZ_eq, iZ_div, iZ_of, ix_Z, gZ_map, gZ_mapI, gZ_map', le_0, le_s, sZ_map, sZ_len, bZ_0, bZ_inj, bZ_t, bZ_f, nr_i, nr_0, nr_1, nr_b, ft_i, ft_b, ft_0, ft_1, zl_0, zl_1, zl_80, l1, -List.filter_filter, -List.getElem?_map, -List.getD_eq_getElem?_getD]
end CY
