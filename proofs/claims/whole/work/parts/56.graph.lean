/-! the class's unify: the pairs are worked off -/
theorem f44_0 : x_fetch q_k44 0 = x_lda 1 0 := rfl
theorem t44_0 (C : xF) (s n : Nat) (z : xS) : x_to q_k44 C s (n + 1) 0 z = x_nx q_k44 C s n ((x_lda 1 0) C z) := x_to_at f44_0 C s n z
theorem f44_1 : x_fetch q_k44 1 = x_st (x_push 2 (.int (0))) := rfl
theorem t44_1 (C : xF) (s n : Nat) (z : xS) : x_to q_k44 C s (n + 1) 1 z = x_nx q_k44 C s n ((x_st (x_push 2 (.int (0)))) C z) := x_to_at f44_1 C s n z
theorem f44_2 : x_fetch q_k44 2 = x_pf 5 5 8 (.int) := rfl
theorem t44_2 (C : xF) (s n : Nat) (z : xS) : x_to q_k44 C s (n + 1) 2 z = x_nx q_k44 C s n ((x_pf 5 5 8 (.int)) C z) := x_to_at f44_2 C s n z
theorem f44_5 : x_fetch q_k44 5 = x_lda 6 0 := rfl
theorem t44_5 (C : xF) (s n : Nat) (z : xS) : x_to q_k44 C s (n + 1) 5 z = x_nx q_k44 C s n ((x_lda 6 0) C z) := x_to_at f44_5 C s n z
theorem f44_6 : x_fetch q_k44 6 = x_ldi 7 1 := rfl
theorem t44_6 (C : xF) (s n : Nat) (z : xS) : x_to q_k44 C s (n + 1) 6 z = x_nx q_k44 C s n ((x_ldi 7 1) C z) := x_to_at f44_6 C s n z
theorem f44_7 : x_fetch q_k44 7 = x_ldi 8 2 := rfl
theorem t44_7 (C : xF) (s n : Nat) (z : xS) : x_to q_k44 C s (n + 1) 7 z = x_nx q_k44 C s n ((x_ldi 8 2) C z) := x_to_at f44_7 C s n z
theorem f44_8 : x_fetch q_k44 8 = x_cv 11 45 3 5 := rfl
theorem t44_8 (C : xF) (s n : Nat) (z : xS) : x_to q_k44 C s (n + 1) 8 z = x_nx q_k44 C s n ((x_cv 11 45 3 5) C z) := x_to_at f44_8 C s n z
theorem f44_11 : x_fetch q_k44 11 = x_st (x_push 12 (.int (0))) := rfl
theorem t44_11 (C : xF) (s n : Nat) (z : xS) : x_to q_k44 C s (n + 1) 11 z = x_nx q_k44 C s n ((x_st (x_push 12 (.int (0)))) C z) := x_to_at f44_11 C s n z
theorem f44_12 : x_fetch q_k44 12 = x_sti 13 3 := rfl
theorem t44_12 (C : xF) (s n : Nat) (z : xS) : x_to q_k44 C s (n + 1) 12 z = x_nx q_k44 C s n ((x_sti 13 3) C z) := x_to_at f44_12 C s n z
theorem f44_13 : x_fetch q_k44 13 = x_ldi 14 3 := rfl
theorem t44_13 (C : xF) (s n : Nat) (z : xS) : x_to q_k44 C s (n + 1) 13 z = x_nx q_k44 C s n ((x_ldi 14 3) C z) := x_to_at f44_13 C s n z
theorem f44_14 : x_fetch q_k44 14 = x_st (x_push 17 (.int (241))) := rfl
theorem t44_14 (C : xF) (s n : Nat) (z : xS) : x_to q_k44 C s (n + 1) 14 z = x_nx q_k44 C s n ((x_st (x_push 17 (.int (241)))) C z) := x_to_at f44_14 C s n z
theorem f44_17 : x_fetch q_k44 17 = x_st (x_icge 169 20) := rfl
theorem t44_17 (C : xF) (s n : Nat) (z : xS) : x_to q_k44 C s (n + 1) 17 z = x_nx q_k44 C s n ((x_st (x_icge 169 20)) C z) := x_to_at f44_17 C s n z
theorem f44_20 : x_fetch q_k44 20 = x_lda 21 0 := rfl
theorem t44_20 (C : xF) (s n : Nat) (z : xS) : x_to q_k44 C s (n + 1) 20 z = x_nx q_k44 C s n ((x_lda 21 0) C z) := x_to_at f44_20 C s n z
theorem f44_21 : x_fetch q_k44 21 = x_gf 24 5 8 := rfl
theorem t44_21 (C : xF) (s n : Nat) (z : xS) : x_to q_k44 C s (n + 1) 21 z = x_nx q_k44 C s n ((x_gf 24 5 8) C z) := x_to_at f44_21 C s n z
theorem f44_24 : x_fetch q_k44 24 = x_st (x_ifle 169 27) := rfl
theorem t44_24 (C : xF) (s n : Nat) (z : xS) : x_to q_k44 C s (n + 1) 24 z = x_nx q_k44 C s n ((x_st (x_ifle 169 27)) C z) := x_to_at f44_24 C s n z
theorem f44_27 : x_fetch q_k44 27 = x_lda 28 0 := rfl
theorem t44_27 (C : xF) (s n : Nat) (z : xS) : x_to q_k44 C s (n + 1) 27 z = x_nx q_k44 C s n ((x_lda 28 0) C z) := x_to_at f44_27 C s n z
theorem f44_28 : x_fetch q_k44 28 = x_st (x_dup 29) := rfl
theorem t44_28 (C : xF) (s n : Nat) (z : xS) : x_to q_k44 C s (n + 1) 28 z = x_nx q_k44 C s n ((x_st (x_dup 29)) C z) := x_to_at f44_28 C s n z
theorem f44_29 : x_fetch q_k44 29 = x_gf 32 5 8 := rfl
theorem t44_29 (C : xF) (s n : Nat) (z : xS) : x_to q_k44 C s (n + 1) 29 z = x_nx q_k44 C s n ((x_gf 32 5 8) C z) := x_to_at f44_29 C s n z
theorem f44_32 : x_fetch q_k44 32 = x_st (x_push 33 (.int (1))) := rfl
theorem t44_32 (C : xF) (s n : Nat) (z : xS) : x_to q_k44 C s (n + 1) 32 z = x_nx q_k44 C s n ((x_st (x_push 33 (.int (1)))) C z) := x_to_at f44_32 C s n z
theorem f44_33 : x_fetch q_k44 33 = x_st (x_bin 34 (fun a b => a - b)) := rfl
theorem t44_33 (C : xF) (s n : Nat) (z : xS) : x_to q_k44 C s (n + 1) 33 z = x_nx q_k44 C s n ((x_st (x_bin 34 (fun a b => a - b))) C z) := x_to_at f44_33 C s n z
theorem f44_34 : x_fetch q_k44 34 = x_pf 37 5 8 (.int) := rfl
theorem t44_34 (C : xF) (s n : Nat) (z : xS) : x_to q_k44 C s (n + 1) 34 z = x_nx q_k44 C s n ((x_pf 37 5 8 (.int)) C z) := x_to_at f44_34 C s n z
theorem f44_37 : x_fetch q_k44 37 = x_lda 38 0 := rfl
theorem t44_37 (C : xF) (s n : Nat) (z : xS) : x_to q_k44 C s (n + 1) 37 z = x_nx q_k44 C s n ((x_lda 38 0) C z) := x_to_at f44_37 C s n z
theorem f44_38 : x_fetch q_k44 38 = x_lda 39 0 := rfl
theorem t44_38 (C : xF) (s n : Nat) (z : xS) : x_to q_k44 C s (n + 1) 38 z = x_nx q_k44 C s n ((x_lda 39 0) C z) := x_to_at f44_38 C s n z
theorem f44_39 : x_fetch q_k44 39 = x_gf 42 5 5 := rfl
theorem t44_39 (C : xF) (s n : Nat) (z : xS) : x_to q_k44 C s (n + 1) 39 z = x_nx q_k44 C s n ((x_gf 42 5 5) C z) := x_to_at f44_39 C s n z
theorem f44_42 : x_fetch q_k44 42 = x_lda 43 0 := rfl
theorem t44_42 (C : xF) (s n : Nat) (z : xS) : x_to q_k44 C s (n + 1) 42 z = x_nx q_k44 C s n ((x_lda 43 0) C z) := x_to_at f44_42 C s n z
theorem f44_43 : x_fetch q_k44 43 = x_gf 46 5 8 := rfl
theorem t44_43 (C : xF) (s n : Nat) (z : xS) : x_to q_k44 C s (n + 1) 43 z = x_nx q_k44 C s n ((x_gf 46 5 8) C z) := x_to_at f44_43 C s n z
theorem f44_46 : x_fetch q_k44 46 = x_ald 47 0 := rfl
theorem t44_46 (C : xF) (s n : Nat) (z : xS) : x_to q_k44 C s (n + 1) 46 z = x_nx q_k44 C s n ((x_ald 47 0) C z) := x_to_at f44_46 C s n z
theorem f44_47 : x_fetch q_k44 47 = x_cv 50 47 2 5 := rfl
theorem t44_47 (C : xF) (s n : Nat) (z : xS) : x_to q_k44 C s (n + 1) 47 z = x_nx q_k44 C s n ((x_cv 50 47 2 5) C z) := x_to_at f44_47 C s n z
theorem f44_50 : x_fetch q_k44 50 = x_sti 52 4 := rfl
theorem t44_50 (C : xF) (s n : Nat) (z : xS) : x_to q_k44 C s (n + 1) 50 z = x_nx q_k44 C s n ((x_sti 52 4) C z) := x_to_at f44_50 C s n z
theorem f44_52 : x_fetch q_k44 52 = x_lda 53 0 := rfl
theorem t44_52 (C : xF) (s n : Nat) (z : xS) : x_to q_k44 C s (n + 1) 52 z = x_nx q_k44 C s n ((x_lda 53 0) C z) := x_to_at f44_52 C s n z
theorem f44_53 : x_fetch q_k44 53 = x_lda 54 0 := rfl
theorem t44_53 (C : xF) (s n : Nat) (z : xS) : x_to q_k44 C s (n + 1) 53 z = x_nx q_k44 C s n ((x_lda 54 0) C z) := x_to_at f44_53 C s n z
theorem f44_54 : x_fetch q_k44 54 = x_gf 57 5 6 := rfl
theorem t44_54 (C : xF) (s n : Nat) (z : xS) : x_to q_k44 C s (n + 1) 54 z = x_nx q_k44 C s n ((x_gf 57 5 6) C z) := x_to_at f44_54 C s n z
theorem f44_57 : x_fetch q_k44 57 = x_lda 58 0 := rfl
theorem t44_57 (C : xF) (s n : Nat) (z : xS) : x_to q_k44 C s (n + 1) 57 z = x_nx q_k44 C s n ((x_lda 58 0) C z) := x_to_at f44_57 C s n z
theorem f44_58 : x_fetch q_k44 58 = x_gf 61 5 8 := rfl
theorem t44_58 (C : xF) (s n : Nat) (z : xS) : x_to q_k44 C s (n + 1) 58 z = x_nx q_k44 C s n ((x_gf 61 5 8) C z) := x_to_at f44_58 C s n z
theorem f44_61 : x_fetch q_k44 61 = x_ald 62 0 := rfl
theorem t44_61 (C : xF) (s n : Nat) (z : xS) : x_to q_k44 C s (n + 1) 61 z = x_nx q_k44 C s n ((x_ald 62 0) C z) := x_to_at f44_61 C s n z
theorem f44_62 : x_fetch q_k44 62 = x_cv 65 47 2 5 := rfl
theorem t44_62 (C : xF) (s n : Nat) (z : xS) : x_to q_k44 C s (n + 1) 62 z = x_nx q_k44 C s n ((x_cv 65 47 2 5) C z) := x_to_at f44_62 C s n z
theorem f44_65 : x_fetch q_k44 65 = x_sti 67 5 := rfl
theorem t44_65 (C : xF) (s n : Nat) (z : xS) : x_to q_k44 C s (n + 1) 65 z = x_nx q_k44 C s n ((x_sti 67 5) C z) := x_to_at f44_65 C s n z
theorem f44_67 : x_fetch q_k44 67 = x_ldi 69 4 := rfl
theorem t44_67 (C : xF) (s n : Nat) (z : xS) : x_to q_k44 C s (n + 1) 67 z = x_nx q_k44 C s n ((x_ldi 69 4) C z) := x_to_at f44_67 C s n z
theorem f44_69 : x_fetch q_k44 69 = x_ldi 71 5 := rfl
theorem t44_69 (C : xF) (s n : Nat) (z : xS) : x_to q_k44 C s (n + 1) 69 z = x_nx q_k44 C s n ((x_ldi 71 5) C z) := x_to_at f44_69 C s n z
theorem f44_71 : x_fetch q_k44 71 = x_st (x_icne 77 74) := rfl
theorem t44_71 (C : xF) (s n : Nat) (z : xS) : x_to q_k44 C s (n + 1) 71 z = x_nx q_k44 C s n ((x_st (x_icne 77 74)) C z) := x_to_at f44_71 C s n z
theorem f44_74 : x_fetch q_k44 74 = x_st (x_goto 163) := rfl
theorem t44_74 (C : xF) (s n : Nat) (z : xS) : x_to q_k44 C s (n + 1) 74 z = x_nx q_k44 C s n ((x_st (x_goto 163)) C z) := x_to_at f44_74 C s n z
theorem f44_77 : x_fetch q_k44 77 = x_lda 78 0 := rfl
theorem t44_77 (C : xF) (s n : Nat) (z : xS) : x_to q_k44 C s (n + 1) 77 z = x_nx q_k44 C s n ((x_lda 78 0) C z) := x_to_at f44_77 C s n z
theorem f44_78 : x_fetch q_k44 78 = x_gf 81 5 0 := rfl
theorem t44_78 (C : xF) (s n : Nat) (z : xS) : x_to q_k44 C s (n + 1) 78 z = x_nx q_k44 C s n ((x_gf 81 5 0) C z) := x_to_at f44_78 C s n z
theorem f44_81 : x_fetch q_k44 81 = x_ldi 83 4 := rfl
theorem t44_81 (C : xF) (s n : Nat) (z : xS) : x_to q_k44 C s (n + 1) 81 z = x_nx q_k44 C s n ((x_ldi 83 4) C z) := x_to_at f44_81 C s n z
theorem f44_83 : x_fetch q_k44 83 = x_ald 84 0 := rfl
theorem t44_83 (C : xF) (s n : Nat) (z : xS) : x_to q_k44 C s (n + 1) 83 z = x_nx q_k44 C s n ((x_ald 84 0) C z) := x_to_at f44_83 C s n z
theorem f44_84 : x_fetch q_k44 84 = x_cl_ 87 2 1 := rfl
theorem t44_84 (C : xF) (s n : Nat) (z : xS) : x_to q_k44 C s (n + 1) 84 z = x_nx q_k44 C s n ((x_cl_ 87 2 1) C z) := x_to_at f44_84 C s n z
theorem f44_87 : x_fetch q_k44 87 = x_st (x_ifeq 102 90) := rfl
theorem t44_87 (C : xF) (s n : Nat) (z : xS) : x_to q_k44 C s (n + 1) 87 z = x_nx q_k44 C s n ((x_st (x_ifeq 102 90)) C z) := x_to_at f44_87 C s n z
theorem f44_90 : x_fetch q_k44 90 = x_lda 91 0 := rfl
theorem t44_90 (C : xF) (s n : Nat) (z : xS) : x_to q_k44 C s (n + 1) 90 z = x_nx q_k44 C s n ((x_lda 91 0) C z) := x_to_at f44_90 C s n z
theorem f44_91 : x_fetch q_k44 91 = x_gf 94 5 2 := rfl
theorem t44_91 (C : xF) (s n : Nat) (z : xS) : x_to q_k44 C s (n + 1) 91 z = x_nx q_k44 C s n ((x_gf 94 5 2) C z) := x_to_at f44_91 C s n z
theorem f44_94 : x_fetch q_k44 94 = x_ldi 96 4 := rfl
theorem t44_94 (C : xF) (s n : Nat) (z : xS) : x_to q_k44 C s (n + 1) 94 z = x_nx q_k44 C s n ((x_ldi 96 4) C z) := x_to_at f44_94 C s n z
theorem f44_96 : x_fetch q_k44 96 = x_ldi 98 5 := rfl
theorem t44_96 (C : xF) (s n : Nat) (z : xS) : x_to q_k44 C s (n + 1) 96 z = x_nx q_k44 C s n ((x_ldi 98 5) C z) := x_to_at f44_96 C s n z
theorem f44_98 : x_fetch q_k44 98 = x_ast 99 0 (fun x => x) := rfl
theorem t44_98 (C : xF) (s n : Nat) (z : xS) : x_to q_k44 C s (n + 1) 98 z = x_nx q_k44 C s n ((x_ast 99 0 (fun x => x)) C z) := x_to_at f44_98 C s n z
theorem f44_99 : x_fetch q_k44 99 = x_st (x_goto 163) := rfl
theorem t44_99 (C : xF) (s n : Nat) (z : xS) : x_to q_k44 C s (n + 1) 99 z = x_nx q_k44 C s n ((x_st (x_goto 163)) C z) := x_to_at f44_99 C s n z
theorem f44_102 : x_fetch q_k44 102 = x_lda 103 0 := rfl
theorem t44_102 (C : xF) (s n : Nat) (z : xS) : x_to q_k44 C s (n + 1) 102 z = x_nx q_k44 C s n ((x_lda 103 0) C z) := x_to_at f44_102 C s n z
theorem f44_103 : x_fetch q_k44 103 = x_gf 106 5 0 := rfl
theorem t44_103 (C : xF) (s n : Nat) (z : xS) : x_to q_k44 C s (n + 1) 103 z = x_nx q_k44 C s n ((x_gf 106 5 0) C z) := x_to_at f44_103 C s n z
theorem f44_106 : x_fetch q_k44 106 = x_ldi 108 5 := rfl
theorem t44_106 (C : xF) (s n : Nat) (z : xS) : x_to q_k44 C s (n + 1) 106 z = x_nx q_k44 C s n ((x_ldi 108 5) C z) := x_to_at f44_106 C s n z
theorem f44_108 : x_fetch q_k44 108 = x_ald 109 0 := rfl
theorem t44_108 (C : xF) (s n : Nat) (z : xS) : x_to q_k44 C s (n + 1) 108 z = x_nx q_k44 C s n ((x_ald 109 0) C z) := x_to_at f44_108 C s n z
theorem f44_109 : x_fetch q_k44 109 = x_cl_ 112 2 1 := rfl
theorem t44_109 (C : xF) (s n : Nat) (z : xS) : x_to q_k44 C s (n + 1) 109 z = x_nx q_k44 C s n ((x_cl_ 112 2 1) C z) := x_to_at f44_109 C s n z
theorem f44_112 : x_fetch q_k44 112 = x_st (x_ifeq 127 115) := rfl
theorem t44_112 (C : xF) (s n : Nat) (z : xS) : x_to q_k44 C s (n + 1) 112 z = x_nx q_k44 C s n ((x_st (x_ifeq 127 115)) C z) := x_to_at f44_112 C s n z
theorem f44_115 : x_fetch q_k44 115 = x_lda 116 0 := rfl
theorem t44_115 (C : xF) (s n : Nat) (z : xS) : x_to q_k44 C s (n + 1) 115 z = x_nx q_k44 C s n ((x_lda 116 0) C z) := x_to_at f44_115 C s n z
theorem f44_116 : x_fetch q_k44 116 = x_gf 119 5 2 := rfl
theorem t44_116 (C : xF) (s n : Nat) (z : xS) : x_to q_k44 C s (n + 1) 116 z = x_nx q_k44 C s n ((x_gf 119 5 2) C z) := x_to_at f44_116 C s n z
theorem f44_119 : x_fetch q_k44 119 = x_ldi 121 5 := rfl
theorem t44_119 (C : xF) (s n : Nat) (z : xS) : x_to q_k44 C s (n + 1) 119 z = x_nx q_k44 C s n ((x_ldi 121 5) C z) := x_to_at f44_119 C s n z
theorem f44_121 : x_fetch q_k44 121 = x_ldi 123 4 := rfl
theorem t44_121 (C : xF) (s n : Nat) (z : xS) : x_to q_k44 C s (n + 1) 121 z = x_nx q_k44 C s n ((x_ldi 123 4) C z) := x_to_at f44_121 C s n z
theorem f44_123 : x_fetch q_k44 123 = x_ast 124 0 (fun x => x) := rfl
theorem t44_123 (C : xF) (s n : Nat) (z : xS) : x_to q_k44 C s (n + 1) 123 z = x_nx q_k44 C s n ((x_ast 124 0 (fun x => x)) C z) := x_to_at f44_123 C s n z
theorem f44_124 : x_fetch q_k44 124 = x_st (x_goto 163) := rfl
theorem t44_124 (C : xF) (s n : Nat) (z : xS) : x_to q_k44 C s (n + 1) 124 z = x_nx q_k44 C s n ((x_st (x_goto 163)) C z) := x_to_at f44_124 C s n z
theorem f44_127 : x_fetch q_k44 127 = x_lda 128 0 := rfl
theorem t44_127 (C : xF) (s n : Nat) (z : xS) : x_to q_k44 C s (n + 1) 127 z = x_nx q_k44 C s n ((x_lda 128 0) C z) := x_to_at f44_127 C s n z
theorem f44_128 : x_fetch q_k44 128 = x_gf 131 5 0 := rfl
theorem t44_128 (C : xF) (s n : Nat) (z : xS) : x_to q_k44 C s (n + 1) 128 z = x_nx q_k44 C s n ((x_gf 131 5 0) C z) := x_to_at f44_128 C s n z
theorem f44_131 : x_fetch q_k44 131 = x_ldi 133 4 := rfl
theorem t44_131 (C : xF) (s n : Nat) (z : xS) : x_to q_k44 C s (n + 1) 131 z = x_nx q_k44 C s n ((x_ldi 133 4) C z) := x_to_at f44_131 C s n z
theorem f44_133 : x_fetch q_k44 133 = x_ald 134 0 := rfl
theorem t44_133 (C : xF) (s n : Nat) (z : xS) : x_to q_k44 C s (n + 1) 133 z = x_nx q_k44 C s n ((x_ald 134 0) C z) := x_to_at f44_133 C s n z
theorem f44_134 : x_fetch q_k44 134 = x_lda 135 0 := rfl
theorem t44_134 (C : xF) (s n : Nat) (z : xS) : x_to q_k44 C s (n + 1) 134 z = x_nx q_k44 C s n ((x_lda 135 0) C z) := x_to_at f44_134 C s n z
theorem f44_135 : x_fetch q_k44 135 = x_gf 138 5 0 := rfl
theorem t44_135 (C : xF) (s n : Nat) (z : xS) : x_to q_k44 C s (n + 1) 135 z = x_nx q_k44 C s n ((x_gf 138 5 0) C z) := x_to_at f44_135 C s n z
theorem f44_138 : x_fetch q_k44 138 = x_ldi 140 5 := rfl
theorem t44_138 (C : xF) (s n : Nat) (z : xS) : x_to q_k44 C s (n + 1) 138 z = x_nx q_k44 C s n ((x_ldi 140 5) C z) := x_to_at f44_138 C s n z
theorem f44_140 : x_fetch q_k44 140 = x_ald 141 0 := rfl
theorem t44_140 (C : xF) (s n : Nat) (z : xS) : x_to q_k44 C s (n + 1) 140 z = x_nx q_k44 C s n ((x_ald 141 0) C z) := x_to_at f44_140 C s n z
theorem f44_141 : x_fetch q_k44 141 = x_st (x_iceq 146 144) := rfl
theorem t44_141 (C : xF) (s n : Nat) (z : xS) : x_to q_k44 C s (n + 1) 141 z = x_nx q_k44 C s n ((x_st (x_iceq 146 144)) C z) := x_to_at f44_141 C s n z
theorem f44_144 : x_fetch q_k44 144 = x_st (x_push 145 (.int (0))) := rfl
theorem t44_144 (C : xF) (s n : Nat) (z : xS) : x_to q_k44 C s (n + 1) 144 z = x_nx q_k44 C s n ((x_st (x_push 145 (.int (0)))) C z) := x_to_at f44_144 C s n z
theorem f44_145 : x_fetch q_k44 145 = x_ri (.boolean) := rfl
theorem t44_145 (C : xF) (s n : Nat) (z : xS) : x_to q_k44 C s (n + 1) 145 z = x_nx q_k44 C s n ((x_ri (.boolean)) C z) := x_to_at f44_145 C s n z
theorem f44_146 : x_fetch q_k44 146 = x_lda 147 0 := rfl
theorem t44_146 (C : xF) (s n : Nat) (z : xS) : x_to q_k44 C s (n + 1) 146 z = x_nx q_k44 C s n ((x_lda 147 0) C z) := x_to_at f44_146 C s n z
theorem f44_147 : x_fetch q_k44 147 = x_gf 150 5 2 := rfl
theorem t44_147 (C : xF) (s n : Nat) (z : xS) : x_to q_k44 C s (n + 1) 147 z = x_nx q_k44 C s n ((x_gf 150 5 2) C z) := x_to_at f44_147 C s n z
theorem f44_150 : x_fetch q_k44 150 = x_ldi 152 4 := rfl
theorem t44_150 (C : xF) (s n : Nat) (z : xS) : x_to q_k44 C s (n + 1) 150 z = x_nx q_k44 C s n ((x_ldi 152 4) C z) := x_to_at f44_150 C s n z
theorem f44_152 : x_fetch q_k44 152 = x_ldi 154 5 := rfl
theorem t44_152 (C : xF) (s n : Nat) (z : xS) : x_to q_k44 C s (n + 1) 152 z = x_nx q_k44 C s n ((x_ldi 154 5) C z) := x_to_at f44_152 C s n z
theorem f44_154 : x_fetch q_k44 154 = x_ast 155 0 (fun x => x) := rfl
theorem t44_154 (C : xF) (s n : Nat) (z : xS) : x_to q_k44 C s (n + 1) 154 z = x_nx q_k44 C s n ((x_ast 155 0 (fun x => x)) C z) := x_to_at f44_154 C s n z
theorem f44_155 : x_fetch q_k44 155 = x_lda 156 0 := rfl
theorem t44_155 (C : xF) (s n : Nat) (z : xS) : x_to q_k44 C s (n + 1) 155 z = x_nx q_k44 C s n ((x_lda 156 0) C z) := x_to_at f44_155 C s n z
theorem f44_156 : x_fetch q_k44 156 = x_ldi 158 4 := rfl
theorem t44_156 (C : xF) (s n : Nat) (z : xS) : x_to q_k44 C s (n + 1) 156 z = x_nx q_k44 C s n ((x_ldi 158 4) C z) := x_to_at f44_156 C s n z
theorem f44_158 : x_fetch q_k44 158 = x_ldi 160 5 := rfl
theorem t44_158 (C : xF) (s n : Nat) (z : xS) : x_to q_k44 C s (n + 1) 158 z = x_nx q_k44 C s n ((x_ldi 160 5) C z) := x_to_at f44_158 C s n z
theorem f44_160 : x_fetch q_k44 160 = x_cv 163 46 3 5 := rfl
theorem t44_160 (C : xF) (s n : Nat) (z : xS) : x_to q_k44 C s (n + 1) 160 z = x_nx q_k44 C s n ((x_cv 163 46 3 5) C z) := x_to_at f44_160 C s n z
theorem f44_163 : x_fetch q_k44 163 = x_iinc 166 3 (1) := rfl
theorem t44_163 (C : xF) (s n : Nat) (z : xS) : x_to q_k44 C s (n + 1) 163 z = x_nx q_k44 C s n ((x_iinc 166 3 (1)) C z) := x_to_at f44_163 C s n z
theorem f44_166 : x_fetch q_k44 166 = x_st (x_goto 13) := rfl
theorem t44_166 (C : xF) (s n : Nat) (z : xS) : x_to q_k44 C s (n + 1) 166 z = x_nx q_k44 C s n ((x_st (x_goto 13)) C z) := x_to_at f44_166 C s n z
theorem f44_169 : x_fetch q_k44 169 = x_lda 170 0 := rfl
theorem t44_169 (C : xF) (s n : Nat) (z : xS) : x_to q_k44 C s (n + 1) 169 z = x_nx q_k44 C s n ((x_lda 170 0) C z) := x_to_at f44_169 C s n z
theorem f44_170 : x_fetch q_k44 170 = x_cv 173 48 1 5 := rfl
theorem t44_170 (C : xF) (s n : Nat) (z : xS) : x_to q_k44 C s (n + 1) 170 z = x_nx q_k44 C s n ((x_cv 173 48 1 5) C z) := x_to_at f44_170 C s n z
theorem f44_173 : x_fetch q_k44 173 = x_ri (.boolean) := rfl
theorem t44_173 (C : xF) (s n : Nat) (z : xS) : x_to q_k44 C s (n + 1) 173 z = x_nx q_k44 C s n ((x_ri (.boolean)) C z) := x_to_at f44_173 C s n z
/-- P is what stands in the graph: its signs are Sy but for the names of variables -/
def GV (P Sy : List Int) (l : Int) : Prop := (P.length : Int) = l ∧ l ≤ 80 ∧ Sy.length = 80 ∧ (∀ i : Nat, i < P.length → vs (gZ Sy i) ∧ (ar (pz P i) : Int) = gZ Sy i % 4 ∧ (pz P i < 99 ↔ 128 ≤ gZ Sy i)) ∧ (∀ i j : Nat, i < P.length → j < P.length → ¬ pz P i < 99 → ¬ pz P j < 99 → (pz P i = pz P j ↔ gZ Sy i = gZ Sy j)) ∧ ∀ i, i < P.length → Ts 1 (tm P i)
def rF (Ro : List Int) (i : Nat) : Nat := (gZ Ro (i : Int)).toNat
theorem rF_ups {Ro : List Int} {a b : Nat} (h : Ro.length = 80) (ha : a < 80) : rF (sZ Ro a b) = ups (rF Ro) a b := by
  funext i
  unfold rF ups
  rw [gZ_sZ (by omega) (by omega) (by omega)]
  by_cases e : (a : Int) = i
  · rw [if_pos e, if_pos (by omega)]
    omega
  · rw [if_neg e, if_neg (by omega)]
section GU
variable {w : Nat → xC} {N : Nat} {l wt : Int} {Sy Ee P : List Int}
theorem m46 (d : Nat) (hN : 53 ≤ N) (hV : GV P Sy l) (hSy : w 17 = cI 0 Sy) (hE : w 18 = cI 0 Ee) (e1 : Ee.length = 80) (hEe : ∀ i, 0 ≤ i → i < l → gZ Ee i = i + (tm P i.toNat).length) (hg : w 16 = gO l wt) {Os Ot : List Int} (hO : w 22 = cI 0 Os) (hT : w 23 = cI 0 Ot) (s1 : Os.length = 241) (s2 : Ot.length = 241) (a b : Nat) (ha : a < P.length) (hb : b < P.length) (hv : ¬ pz P a < 99) (e : pz P b = pz P a) (w0 : 0 ≤ wt) (w1 : wt + ar (pz P a) ≤ 241) :
    Xc (d + 2) 46 [.ref 19, .int (iZ a), .int (iZ b)] (hp w N) (none, hp (uH (uH (uH w 16 (gO l (wt + ar (pz P a)))) 22 (cI 0 (psh P Os wt (ar (pz P a)) ((a : Int) + 1)))) 23 (cI 0 (psh P Ot wt (ar (pz P a)) ((b : Int) + 1)))) N) := by
  obtain ⟨v1, v2, v3, v4, v5, v6⟩ := hV
  obtain ⟨z1, z2, z3⟩ := v4 a ha
  have z4 := vs_lo z1
  have z5 := vs_hi z1
  have har := ar_le (pz P a)
  have hTa : Ts (ar (pz P a)) (tk (ar (pz P a)) (P.drop (a + 1))) := by
    have := v6 a ha
    rw [tm_eq ha] at this
    have h9 : Ts (0 + ar (pz P a)) (tk (ar (pz P a)) (P.drop (a + 1))) := this
    rw [Nat.zero_add] at h9
    exact h9
  have hTb : Ts (ar (pz P a)) (tk (ar (pz P a)) (P.drop (b + 1))) := by
    have := v6 b hb
    rw [tm_eq hb] at this
    have h9 : Ts (0 + ar (pz P b)) (tk (ar (pz P b)) (P.drop (b + 1))) := this
    rw [Nat.zero_add, e] at h9
    exact h9
  have mm := m5 d w N (gZ Sy a) z4 (by omega)
  rw [← z2] at mm
  have p1 := psh_len P (ar (pz P a)) Os wt ((a : Int) + 1)
  have p2 := psh_len P (ar (pz P a)) Ot wt ((b : Int) + 1)
  refine Xc.of rfl (by simp [lg_sl, Value.category]) ?_ (hp_le (Nat.le_refl _) (fun j _ => by (simp only [uH]; repeat' split) <;> simp_all [x_c1, sZ_len, gF_len]))
  have hc : c1 (lv_args 0 [.ref 19, .int (iZ a), .int (iZ b)]) := by simp [c1, lv_args, Value.category]
  have l0 : x_lk (lv_args 0 [.ref 19, .int (iZ a), .int (iZ b)]) 0 = some (.ref 19) := rfl
  have l1 : x_lk (lv_args 0 [.ref 19, .int (iZ a), .int (iZ b)]) 1 = some (.int (iZ a)) := rfl
  have l2 : x_lk (lv_args 0 [.ref 19, .int (iZ a), .int (iZ b)]) 2 = some (.int (iZ b)) := rfl
  generalize lv_args 0 [.ref 19, .int (iZ a), .int (iZ b)] = lv at hc l0 l1 l2
  have C1 := c1_st (i := 3) (v := .int (iZ (ar (pz P a) : Int))) rfl hc
  have C2 := c1_st (i := 4) (v := .int (iZ ((a : Int) + 1))) rfl C1
  have C3 := c1_st (i := 5) (v := .int (iZ ((b : Int) + 1))) rfl C2
  have C4 := c1_st (i := 6) (v := .int (iZ 0)) rfl C3
  have k3 := l46 (w := w) (P := P) d hN hE e1 (by omega) v2 v1 hEe (ar (pz P a) : Int) (by omega) (by omega) (ar (pz P a)) 0 ((a : Int) + 1) ((b : Int) + 1) wt Os Ot _ s1 s2 (by omega) (by omega) (by omega) (by omega) (by rw [show ((a : Int) + 1).toNat = a + 1 by omega]; exact hTa) (by rw [show ((b : Int) + 1).toNat = b + 1 by omega]; exact hTb) w0 w1 C4 (by rw [lk_s C3, lk_s C2, lk_s C1, lk_s hc]; exact l0) (by rw [lk_s C3, lk_s C2, lk_s C1, lk_s hc]; rfl) (by rw [lk_s C3, lk_s C2, lk_s C1]; rfl) (by rw [lk_s C3, lk_s C2]; rfl) (by rw [lk_s C3]; rfl)
  rw [uH_self hg, uH_self hO, uH_self hT] at k3
  refine Gx.run 40 mm (fun C mm => ?_) k3
  simp (disch := first | (refine c1_id ?_; assumption) | (refine c1_st rfl ?_; repeat (first | assumption | refine c1_st rfl ?_)) | omega) [nx_l, nx_r, nx_n, x_st, x_push, x_bin, x_div, x_un, x_dup, x_pop, x_dup2, x_goto, x_ifeq, x_ifne, x_iflt, x_ifge, x_ifgt, x_ifle, x_iceq, x_icne, x_iclt, x_icge, x_icgt, x_icle, x_ifnull, x_ifnonnull, x_ldi, x_lda, x_sti, x_sta, x_iinc, x_gf, x_pf, x_ald, x_ast, x_aln, x_len, x_cl_, x_cv, x_cs, x_rc, x_r0, x_isT, x_oi, x_rv, x_ri, x_ra, Value.category, t46_0, t46_1, t46_4, t46_5, t46_6, t46_9, t46_10, t46_11, t46_12, t46_13, t46_15, t46_16, t46_17, t46_18, t46_20, t46_21, t46_23, t46_25, t46_26, t46_29, t46_30, t46_32, t46_34, t46_37, t46_38, t46_40, t46_43, t46_45, t46_46, t46_48, t46_51, t46_53, t46_56, t46_59, lk_s, hp_get, hp_set, uH_at, uH_ne, uH_upd, uH_swap, iZ_add, iZ_sub, iZ_mul, iZ_neg, iZ_lt, iZ_le, iZ_eq, iZ_div, iZ_of, ix_Z, gZ_map, gZ_mapI, gZ_map', le_0, le_s, sZ_map, sZ_len, bZ_0, bZ_inj, bZ_t, bZ_f, nr_i, nr_0, nr_1, nr_b, ft_i, ft_b, ft_0, ft_1, zl_0, zl_1, l0, l1, l2, hg, hSy, mm, gF_len, gg_0, gg_1, gg_2, gg_3, gg_4, gg_5, gg_6, gg_7, gg_8, gs_7, gs_8, -List.filter_filter, -List.getElem?_map, -List.getD_eq_getElem?_getD]
def gH (w : Nat → xC) (N : Nat) (l wt : Int) (Ro Os Ot : List Int) : xH := hp (uH (uH (uH (uH w 16 (gO l wt)) 19 (cI 0 Ro)) 22 (cI 0 Os)) 23 (cI 0 Ot)) N
def gW (w : Nat → xC) (l wt : Int) (Ro Os Ot : List Int) : Nat → xC := uH (uH (uH (uH w 16 (gO l wt)) 19 (cI 0 Ro)) 22 (cI 0 Os)) 23 (cI 0 Ot)
theorem gW_16 (w : Nat → xC) (l wt : Int) (Ro Os Ot : List Int) : gW w l wt Ro Os Ot 16 = gO l wt := by unfold gW; rw [uH_ne (by omega), uH_ne (by omega), uH_ne (by omega), uH_at]
theorem gW_19 (w : Nat → xC) (l wt : Int) (Ro Os Ot : List Int) : gW w l wt Ro Os Ot 19 = cI 0 Ro := by unfold gW; rw [uH_ne (by omega), uH_ne (by omega), uH_at]
theorem gW_22 (w : Nat → xC) (l wt : Int) (Ro Os Ot : List Int) : gW w l wt Ro Os Ot 22 = cI 0 Os := by unfold gW; rw [uH_ne (by omega), uH_at]
theorem gW_23 (w : Nat → xC) (l wt : Int) (Ro Os Ot : List Int) : gW w l wt Ro Os Ot 23 = cI 0 Ot := by unfold gW; rw [uH_at]
theorem gW_o {w : Nat → xC} (l wt : Int) (Ro Os Ot : List Int) {j : Nat} (h : j ≠ 16 ∧ j ≠ 19 ∧ j ≠ 22 ∧ j ≠ 23) : gW w l wt Ro Os Ot j = w j := by unfold gW; rw [uH_ne (by omega), uH_ne (by omega), uH_ne (by omega), uH_ne (by omega)]
/-- a pair is taken, its tops are found -/
theorem l44_13 (d : Nat) (hN : 53 ≤ N) (l0_ : 0 ≤ l) (l1_ : l ≤ 80) (Ro Os Ot : List Int) (s0 : Ro.length = 80) (s1 : Os.length = 241) (s2 : Ot.length = 241) (hr : ∀ i, 0 ≤ i → i < 80 → 0 ≤ gZ Ro i ∧ gZ Ro i < 80) (wt k : Int) (w0 : 0 < wt) (w1 : wt ≤ 241) (k0 : 0 ≤ k) (k1 : k < 241) (x0 : 0 ≤ gZ Os (wt - 1)) (x1 : gZ Os (wt - 1) < 80) (y0 : 0 ≤ gZ Ot (wt - 1)) (y1 : gZ Ot (wt - 1) < 80) (lv : xL) (hc : c1 lv) (l0 : x_lk lv 0 = some (.ref 19)) (l3 : x_lk lv 3 = some (.int (iZ k))) :
    ∃ lv', c1 lv' ∧ x_lk lv' 0 = some (.ref 19) ∧ x_lk lv' 3 = some (.int (iZ k)) ∧ x_lk lv' 4 = some (.int (iZ (fdn (rF Ro) 80 (gZ Os (wt - 1)).toNat))) ∧ x_lk lv' 5 = some (.int (iZ (fdn (rF Ro) 80 (gZ Ot (wt - 1)).toNat))) ∧ ∀ res, Gx q_k44 (d + 2) 67 (lv', [], gH w N l (wt - 1) Ro Os Ot) res → Gx q_k44 (d + 2) 13 (lv, [], gH w N l wt Ro Os Ot) res := by
  have mx := m47 (d + 1) (w := gW w l (wt - 1) Ro Os Ot) (N := N) (l := l) (wt := wt - 1) (Ro := Ro) hN (gW_16 _ _ _ _ _ _) (gW_19 _ _ _ _ _ _) s0 hr (gZ Os (wt - 1)) x0 x1
  have my := m47 (d + 1) (w := gW w l (wt - 1) Ro Os Ot) (N := N) (l := l) (wt := wt - 1) (Ro := Ro) hN (gW_16 _ _ _ _ _ _) (gW_19 _ _ _ _ _ _) s0 hr (gZ Ot (wt - 1)) y0 y1
  have C1 := c1_st (i := 4) (v := .int (iZ (fdn (rF Ro) 80 (gZ Os (wt - 1)).toNat))) rfl hc
  have C2 := c1_st (i := 5) (v := .int (iZ (fdn (rF Ro) 80 (gZ Ot (wt - 1)).toNat))) rfl C1
  refine ⟨_, C2, by rw [lk_s C1, lk_s hc]; exact l0, by rw [lk_s C1, lk_s hc]; exact l3, by rw [lk_s C1, lk_s hc]; rfl, by rw [lk_s C1]; rfl, fun res k3 => Gx.run 60 (mx.and my) (fun C mm => ?_) k3⟩
  obtain ⟨mx, my⟩ := mm
  unfold gW at mx my
  have eR : (fun i : Nat => (gZ Ro (i : Int)).toNat) = rF Ro := rfl
  rw [eR] at mx my
  have b1 : ¬ 241 ≤ k := by omega
  have b2 : ¬ wt ≤ 0 := by omega
  simp (disch := first | (refine c1_id ?_; assumption) | (refine c1_st rfl ?_; repeat (first | assumption | refine c1_st rfl ?_)) | omega) [nx_l, nx_r, nx_n, x_st, x_push, x_bin, x_div, x_un, x_dup, x_pop, x_dup2, x_goto, x_ifeq, x_ifne, x_iflt, x_ifge, x_ifgt, x_ifle, x_iceq, x_icne, x_iclt, x_icge, x_icgt, x_icle, x_ifnull, x_ifnonnull, x_ldi, x_lda, x_sti, x_sta, x_iinc, x_gf, x_pf, x_ald, x_ast, x_aln, x_len, x_cl_, x_cv, x_cs, x_rc, x_r0, x_isT, x_oi, x_rv, x_ri, x_ra, Value.category, t44_0, t44_1, t44_2, t44_5, t44_6, t44_7, t44_8, t44_11, t44_12, t44_13, t44_14, t44_17, t44_20, t44_21, t44_24, t44_27, t44_28, t44_29, t44_32, t44_33, t44_34, t44_37, t44_38, t44_39, t44_42, t44_43, t44_46, t44_47, t44_50, t44_52, t44_53, t44_54, t44_57, t44_58, t44_61, t44_62, t44_65, t44_67, t44_69, t44_71, t44_74, t44_77, t44_78, t44_81, t44_83, t44_84, t44_87, t44_90, t44_91, t44_94, t44_96, t44_98, t44_99, t44_102, t44_103, t44_106, t44_108, t44_109, t44_112, t44_115, t44_116, t44_119, t44_121, t44_123, t44_124, t44_127, t44_128, t44_131, t44_133, t44_134, t44_135, t44_138, t44_140, t44_141, t44_144, t44_145, t44_146, t44_147, t44_150, t44_152, t44_154, t44_155, t44_156, t44_158, t44_160, t44_163, t44_166, t44_169, t44_170, t44_173, lk_s, hp_get, hp_set, uH_at, uH_ne, uH_upd, uH_swap, iZ_add, iZ_sub, iZ_mul, iZ_neg, iZ_lt, iZ_le, iZ_eq, iZ_div, iZ_of, ix_Z, gZ_map, gZ_mapI, gZ_map', le_0, le_s, sZ_map, sZ_len, bZ_0, bZ_inj, bZ_t, bZ_f, nr_i, nr_0, nr_1, nr_b, ft_i, ft_b, ft_0, ft_1, zl_0, zl_1, zl_241, gH, l0, l3, mx, my, b1, b2, gF_len, gg_0, gg_1, gg_2, gg_3, gg_4, gg_5, gg_6, gg_7, gg_8, gs_7, gs_8, -List.filter_filter, -List.getElem?_map, -List.getD_eq_getElem?_getD]
end GU
