/-! the reference: the draft is read -/
theorem f105_0 : x_fetch q_k105 0 = x_lda 1 0 := rfl
theorem t105_0 (C : xF) (s n : Nat) (z : xS) : x_to q_k105 C s (n + 1) 0 z = x_nx q_k105 C s n ((x_lda 1 0) C z) := x_to_at f105_0 C s n z
theorem f105_1 : x_fetch q_k105 1 = x_st (x_push 2 (.int (0))) := rfl
theorem t105_1 (C : xF) (s n : Nat) (z : xS) : x_to q_k105 C s (n + 1) 1 z = x_nx q_k105 C s n ((x_st (x_push 2 (.int (0)))) C z) := x_to_at f105_1 C s n z
theorem f105_2 : x_fetch q_k105 2 = x_pf 5 8 14 (.int) := rfl
theorem t105_2 (C : xF) (s n : Nat) (z : xS) : x_to q_k105 C s (n + 1) 2 z = x_nx q_k105 C s n ((x_pf 5 8 14 (.int)) C z) := x_to_at f105_2 C s n z
theorem f105_5 : x_fetch q_k105 5 = x_lda 6 0 := rfl
theorem t105_5 (C : xF) (s n : Nat) (z : xS) : x_to q_k105 C s (n + 1) 5 z = x_nx q_k105 C s n ((x_lda 6 0) C z) := x_to_at f105_5 C s n z
theorem f105_6 : x_fetch q_k105 6 = x_st (x_push 7 (.int (0))) := rfl
theorem t105_6 (C : xF) (s n : Nat) (z : xS) : x_to q_k105 C s (n + 1) 6 z = x_nx q_k105 C s n ((x_st (x_push 7 (.int (0)))) C z) := x_to_at f105_6 C s n z
theorem f105_7 : x_fetch q_k105 7 = x_pf 10 8 21 (.int) := rfl
theorem t105_7 (C : xF) (s n : Nat) (z : xS) : x_to q_k105 C s (n + 1) 7 z = x_nx q_k105 C s n ((x_pf 10 8 21 (.int)) C z) := x_to_at f105_7 C s n z
theorem f105_10 : x_fetch q_k105 10 = x_lda 11 0 := rfl
theorem t105_10 (C : xF) (s n : Nat) (z : xS) : x_to q_k105 C s (n + 1) 10 z = x_nx q_k105 C s n ((x_lda 11 0) C z) := x_to_at f105_10 C s n z
theorem f105_11 : x_fetch q_k105 11 = x_st (x_push 12 (.int (0))) := rfl
theorem t105_11 (C : xF) (s n : Nat) (z : xS) : x_to q_k105 C s (n + 1) 11 z = x_nx q_k105 C s n ((x_st (x_push 12 (.int (0)))) C z) := x_to_at f105_11 C s n z
theorem f105_12 : x_fetch q_k105 12 = x_pf 15 8 22 (.int) := rfl
theorem t105_12 (C : xF) (s n : Nat) (z : xS) : x_to q_k105 C s (n + 1) 12 z = x_nx q_k105 C s n ((x_pf 15 8 22 (.int)) C z) := x_to_at f105_12 C s n z
theorem f105_15 : x_fetch q_k105 15 = x_lda 16 0 := rfl
theorem t105_15 (C : xF) (s n : Nat) (z : xS) : x_to q_k105 C s (n + 1) 15 z = x_nx q_k105 C s n ((x_lda 16 0) C z) := x_to_at f105_15 C s n z
theorem f105_16 : x_fetch q_k105 16 = x_gf 19 8 18 := rfl
theorem t105_16 (C : xF) (s n : Nat) (z : xS) : x_to q_k105 C s (n + 1) 16 z = x_nx q_k105 C s n ((x_gf 19 8 18) C z) := x_to_at f105_16 C s n z
theorem f105_19 : x_fetch q_k105 19 = x_st (x_push 20 (.int (0))) := rfl
theorem t105_19 (C : xF) (s n : Nat) (z : xS) : x_to q_k105 C s (n + 1) 19 z = x_nx q_k105 C s n ((x_st (x_push 20 (.int (0)))) C z) := x_to_at f105_19 C s n z
theorem f105_20 : x_fetch q_k105 20 = x_st (x_push 21 (.int (0))) := rfl
theorem t105_20 (C : xF) (s n : Nat) (z : xS) : x_to q_k105 C s (n + 1) 20 z = x_nx q_k105 C s n ((x_st (x_push 21 (.int (0)))) C z) := x_to_at f105_20 C s n z
theorem f105_21 : x_fetch q_k105 21 = x_ast 22 0 (fun x => x) := rfl
theorem t105_21 (C : xF) (s n : Nat) (z : xS) : x_to q_k105 C s (n + 1) 21 z = x_nx q_k105 C s n ((x_ast 22 0 (fun x => x)) C z) := x_to_at f105_21 C s n z
theorem f105_22 : x_fetch q_k105 22 = x_lda 23 0 := rfl
theorem t105_22 (C : xF) (s n : Nat) (z : xS) : x_to q_k105 C s (n + 1) 22 z = x_nx q_k105 C s n ((x_lda 23 0) C z) := x_to_at f105_22 C s n z
theorem f105_23 : x_fetch q_k105 23 = x_st (x_push 24 (.int (0))) := rfl
theorem t105_23 (C : xF) (s n : Nat) (z : xS) : x_to q_k105 C s (n + 1) 23 z = x_nx q_k105 C s n ((x_st (x_push 24 (.int (0)))) C z) := x_to_at f105_23 C s n z
theorem f105_24 : x_fetch q_k105 24 = x_pf 27 8 15 (.boolean) := rfl
theorem t105_24 (C : xF) (s n : Nat) (z : xS) : x_to q_k105 C s (n + 1) 24 z = x_nx q_k105 C s n ((x_pf 27 8 15 (.boolean)) C z) := x_to_at f105_24 C s n z
theorem f105_27 : x_fetch q_k105 27 = x_lda 28 0 := rfl
theorem t105_27 (C : xF) (s n : Nat) (z : xS) : x_to q_k105 C s (n + 1) 27 z = x_nx q_k105 C s n ((x_lda 28 0) C z) := x_to_at f105_27 C s n z
theorem f105_28 : x_fetch q_k105 28 = x_st (x_push 29 (.int (0))) := rfl
theorem t105_28 (C : xF) (s n : Nat) (z : xS) : x_to q_k105 C s (n + 1) 28 z = x_nx q_k105 C s n ((x_st (x_push 29 (.int (0)))) C z) := x_to_at f105_28 C s n z
theorem f105_29 : x_fetch q_k105 29 = x_pf 32 8 16 (.boolean) := rfl
theorem t105_29 (C : xF) (s n : Nat) (z : xS) : x_to q_k105 C s (n + 1) 29 z = x_nx q_k105 C s n ((x_pf 32 8 16 (.boolean)) C z) := x_to_at f105_29 C s n z
theorem f105_32 : x_fetch q_k105 32 = x_st (x_push 33 (.int (0))) := rfl
theorem t105_32 (C : xF) (s n : Nat) (z : xS) : x_to q_k105 C s (n + 1) 32 z = x_nx q_k105 C s n ((x_st (x_push 33 (.int (0)))) C z) := x_to_at f105_32 C s n z
theorem f105_33 : x_fetch q_k105 33 = x_sti 34 1 := rfl
theorem t105_33 (C : xF) (s n : Nat) (z : xS) : x_to q_k105 C s (n + 1) 33 z = x_nx q_k105 C s n ((x_sti 34 1) C z) := x_to_at f105_33 C s n z
theorem f105_34 : x_fetch q_k105 34 = x_st (x_push 35 (.int (0))) := rfl
theorem t105_34 (C : xF) (s n : Nat) (z : xS) : x_to q_k105 C s (n + 1) 34 z = x_nx q_k105 C s n ((x_st (x_push 35 (.int (0)))) C z) := x_to_at f105_34 C s n z
theorem f105_35 : x_fetch q_k105 35 = x_sti 36 2 := rfl
theorem t105_35 (C : xF) (s n : Nat) (z : xS) : x_to q_k105 C s (n + 1) 35 z = x_nx q_k105 C s n ((x_sti 36 2) C z) := x_to_at f105_35 C s n z
theorem f105_36 : x_fetch q_k105 36 = x_ldi 37 2 := rfl
theorem t105_36 (C : xF) (s n : Nat) (z : xS) : x_to q_k105 C s (n + 1) 36 z = x_nx q_k105 C s n ((x_ldi 37 2) C z) := x_to_at f105_36 C s n z
theorem f105_37 : x_fetch q_k105 37 = x_st (x_push 39 (.int (26))) := rfl
theorem t105_37 (C : xF) (s n : Nat) (z : xS) : x_to q_k105 C s (n + 1) 37 z = x_nx q_k105 C s n ((x_st (x_push 39 (.int (26)))) C z) := x_to_at f105_37 C s n z
theorem f105_39 : x_fetch q_k105 39 = x_st (x_icge 60 42) := rfl
theorem t105_39 (C : xF) (s n : Nat) (z : xS) : x_to q_k105 C s (n + 1) 39 z = x_nx q_k105 C s n ((x_st (x_icge 60 42)) C z) := x_to_at f105_39 C s n z
theorem f105_42 : x_fetch q_k105 42 = x_lda 43 0 := rfl
theorem t105_42 (C : xF) (s n : Nat) (z : xS) : x_to q_k105 C s (n + 1) 42 z = x_nx q_k105 C s n ((x_lda 43 0) C z) := x_to_at f105_42 C s n z
theorem f105_43 : x_fetch q_k105 43 = x_gf 46 8 11 := rfl
theorem t105_43 (C : xF) (s n : Nat) (z : xS) : x_to q_k105 C s (n + 1) 43 z = x_nx q_k105 C s n ((x_gf 46 8 11) C z) := x_to_at f105_43 C s n z
theorem f105_46 : x_fetch q_k105 46 = x_ldi 47 2 := rfl
theorem t105_46 (C : xF) (s n : Nat) (z : xS) : x_to q_k105 C s (n + 1) 46 z = x_nx q_k105 C s n ((x_ldi 47 2) C z) := x_to_at f105_46 C s n z
theorem f105_47 : x_fetch q_k105 47 = x_lda 48 0 := rfl
theorem t105_47 (C : xF) (s n : Nat) (z : xS) : x_to q_k105 C s (n + 1) 47 z = x_nx q_k105 C s n ((x_lda 48 0) C z) := x_to_at f105_47 C s n z
theorem f105_48 : x_fetch q_k105 48 = x_gf 51 8 10 := rfl
theorem t105_48 (C : xF) (s n : Nat) (z : xS) : x_to q_k105 C s (n + 1) 48 z = x_nx q_k105 C s n ((x_gf 51 8 10) C z) := x_to_at f105_48 C s n z
theorem f105_51 : x_fetch q_k105 51 = x_ldi 52 2 := rfl
theorem t105_51 (C : xF) (s n : Nat) (z : xS) : x_to q_k105 C s (n + 1) 51 z = x_nx q_k105 C s n ((x_ldi 52 2) C z) := x_to_at f105_51 C s n z
theorem f105_52 : x_fetch q_k105 52 = x_ald 53 0 := rfl
theorem t105_52 (C : xF) (s n : Nat) (z : xS) : x_to q_k105 C s (n + 1) 52 z = x_nx q_k105 C s n ((x_ald 53 0) C z) := x_to_at f105_52 C s n z
theorem f105_53 : x_fetch q_k105 53 = x_ast 54 0 (fun x => x) := rfl
theorem t105_53 (C : xF) (s n : Nat) (z : xS) : x_to q_k105 C s (n + 1) 53 z = x_nx q_k105 C s n ((x_ast 54 0 (fun x => x)) C z) := x_to_at f105_53 C s n z
theorem f105_54 : x_fetch q_k105 54 = x_iinc 57 2 (1) := rfl
theorem t105_54 (C : xF) (s n : Nat) (z : xS) : x_to q_k105 C s (n + 1) 54 z = x_nx q_k105 C s n ((x_iinc 57 2 (1)) C z) := x_to_at f105_54 C s n z
theorem f105_57 : x_fetch q_k105 57 = x_st (x_goto 36) := rfl
theorem t105_57 (C : xF) (s n : Nat) (z : xS) : x_to q_k105 C s (n + 1) 57 z = x_nx q_k105 C s n ((x_st (x_goto 36)) C z) := x_to_at f105_57 C s n z
theorem f105_60 : x_fetch q_k105 60 = x_lda 61 0 := rfl
theorem t105_60 (C : xF) (s n : Nat) (z : xS) : x_to q_k105 C s (n + 1) 60 z = x_nx q_k105 C s n ((x_lda 61 0) C z) := x_to_at f105_60 C s n z
theorem f105_61 : x_fetch q_k105 61 = x_gf 64 8 13 := rfl
theorem t105_61 (C : xF) (s n : Nat) (z : xS) : x_to q_k105 C s (n + 1) 61 z = x_nx q_k105 C s n ((x_gf 64 8 13) C z) := x_to_at f105_61 C s n z
theorem f105_64 : x_fetch q_k105 64 = x_st (x_push 65 (.int (1))) := rfl
theorem t105_64 (C : xF) (s n : Nat) (z : xS) : x_to q_k105 C s (n + 1) 64 z = x_nx q_k105 C s n ((x_st (x_push 65 (.int (1)))) C z) := x_to_at f105_64 C s n z
theorem f105_65 : x_fetch q_k105 65 = x_st (x_icne 81 68) := rfl
theorem t105_65 (C : xF) (s n : Nat) (z : xS) : x_to q_k105 C s (n + 1) 65 z = x_nx q_k105 C s n ((x_st (x_icne 81 68)) C z) := x_to_at f105_65 C s n z
theorem f105_68 : x_fetch q_k105 68 = x_lda 69 0 := rfl
theorem t105_68 (C : xF) (s n : Nat) (z : xS) : x_to q_k105 C s (n + 1) 68 z = x_nx q_k105 C s n ((x_lda 69 0) C z) := x_to_at f105_68 C s n z
theorem f105_69 : x_fetch q_k105 69 = x_gf 72 8 12 := rfl
theorem t105_69 (C : xF) (s n : Nat) (z : xS) : x_to q_k105 C s (n + 1) 69 z = x_nx q_k105 C s n ((x_gf 72 8 12) C z) := x_to_at f105_69 C s n z
theorem f105_72 : x_fetch q_k105 72 = x_st (x_push 73 (.int (0))) := rfl
theorem t105_72 (C : xF) (s n : Nat) (z : xS) : x_to q_k105 C s (n + 1) 72 z = x_nx q_k105 C s n ((x_st (x_push 73 (.int (0)))) C z) := x_to_at f105_72 C s n z
theorem f105_73 : x_fetch q_k105 73 = x_ald 74 2 := rfl
theorem t105_73 (C : xF) (s n : Nat) (z : xS) : x_to q_k105 C s (n + 1) 73 z = x_nx q_k105 C s n ((x_ald 74 2) C z) := x_to_at f105_73 C s n z
theorem f105_74 : x_fetch q_k105 74 = x_st (x_push 76 (.int (35))) := rfl
theorem t105_74 (C : xF) (s n : Nat) (z : xS) : x_to q_k105 C s (n + 1) 74 z = x_nx q_k105 C s n ((x_st (x_push 76 (.int (35)))) C z) := x_to_at f105_74 C s n z
theorem f105_76 : x_fetch q_k105 76 = x_st (x_icne 81 79) := rfl
theorem t105_76 (C : xF) (s n : Nat) (z : xS) : x_to q_k105 C s (n + 1) 76 z = x_nx q_k105 C s n ((x_st (x_icne 81 79)) C z) := x_to_at f105_76 C s n z
theorem f105_79 : x_fetch q_k105 79 = x_st (x_push 80 (.int (0))) := rfl
theorem t105_79 (C : xF) (s n : Nat) (z : xS) : x_to q_k105 C s (n + 1) 79 z = x_nx q_k105 C s n ((x_st (x_push 80 (.int (0)))) C z) := x_to_at f105_79 C s n z
theorem f105_80 : x_fetch q_k105 80 = x_ri (.int) := rfl
theorem t105_80 (C : xF) (s n : Nat) (z : xS) : x_to q_k105 C s (n + 1) 80 z = x_nx q_k105 C s n ((x_ri (.int)) C z) := x_to_at f105_80 C s n z
theorem f105_81 : x_fetch q_k105 81 = x_st (x_push 82 (.int (1))) := rfl
theorem t105_81 (C : xF) (s n : Nat) (z : xS) : x_to q_k105 C s (n + 1) 81 z = x_nx q_k105 C s n ((x_st (x_push 82 (.int (1)))) C z) := x_to_at f105_81 C s n z
theorem f105_82 : x_fetch q_k105 82 = x_sti 83 2 := rfl
theorem t105_82 (C : xF) (s n : Nat) (z : xS) : x_to q_k105 C s (n + 1) 82 z = x_nx q_k105 C s n ((x_sti 83 2) C z) := x_to_at f105_82 C s n z
theorem f105_83 : x_fetch q_k105 83 = x_ldi 84 2 := rfl
theorem t105_83 (C : xF) (s n : Nat) (z : xS) : x_to q_k105 C s (n + 1) 83 z = x_nx q_k105 C s n ((x_ldi 84 2) C z) := x_to_at f105_83 C s n z
theorem f105_84 : x_fetch q_k105 84 = x_st (x_ifeq 148 87) := rfl
theorem t105_84 (C : xF) (s n : Nat) (z : xS) : x_to q_k105 C s (n + 1) 84 z = x_nx q_k105 C s n ((x_st (x_ifeq 148 87)) C z) := x_to_at f105_84 C s n z
theorem f105_87 : x_fetch q_k105 87 = x_lda 88 0 := rfl
theorem t105_87 (C : xF) (s n : Nat) (z : xS) : x_to q_k105 C s (n + 1) 87 z = x_nx q_k105 C s n ((x_lda 88 0) C z) := x_to_at f105_87 C s n z
theorem f105_88 : x_fetch q_k105 88 = x_gf 91 8 15 := rfl
theorem t105_88 (C : xF) (s n : Nat) (z : xS) : x_to q_k105 C s (n + 1) 88 z = x_nx q_k105 C s n ((x_gf 91 8 15) C z) := x_to_at f105_88 C s n z
theorem f105_91 : x_fetch q_k105 91 = x_st (x_ifne 148 94) := rfl
theorem t105_91 (C : xF) (s n : Nat) (z : xS) : x_to q_k105 C s (n + 1) 91 z = x_nx q_k105 C s n ((x_st (x_ifne 148 94)) C z) := x_to_at f105_91 C s n z
theorem f105_94 : x_fetch q_k105 94 = x_lda 95 0 := rfl
theorem t105_94 (C : xF) (s n : Nat) (z : xS) : x_to q_k105 C s (n + 1) 94 z = x_nx q_k105 C s n ((x_lda 95 0) C z) := x_to_at f105_94 C s n z
theorem f105_95 : x_fetch q_k105 95 = x_cv 98 103 1 8 := rfl
theorem t105_95 (C : xF) (s n : Nat) (z : xS) : x_to q_k105 C s (n + 1) 95 z = x_nx q_k105 C s n ((x_cv 98 103 1 8) C z) := x_to_at f105_95 C s n z
theorem f105_98 : x_fetch q_k105 98 = x_ldi 99 1 := rfl
theorem t105_98 (C : xF) (s n : Nat) (z : xS) : x_to q_k105 C s (n + 1) 98 z = x_nx q_k105 C s n ((x_ldi 99 1) C z) := x_to_at f105_98 C s n z
theorem f105_99 : x_fetch q_k105 99 = x_st (x_ifne 111 102) := rfl
theorem t105_99 (C : xF) (s n : Nat) (z : xS) : x_to q_k105 C s (n + 1) 99 z = x_nx q_k105 C s n ((x_st (x_ifne 111 102)) C z) := x_to_at f105_99 C s n z
theorem f105_102 : x_fetch q_k105 102 = x_lda 103 0 := rfl
theorem t105_102 (C : xF) (s n : Nat) (z : xS) : x_to q_k105 C s (n + 1) 102 z = x_nx q_k105 C s n ((x_lda 103 0) C z) := x_to_at f105_102 C s n z
theorem f105_103 : x_fetch q_k105 103 = x_gf 106 8 22 := rfl
theorem t105_103 (C : xF) (s n : Nat) (z : xS) : x_to q_k105 C s (n + 1) 103 z = x_nx q_k105 C s n ((x_gf 106 8 22) C z) := x_to_at f105_103 C s n z
theorem f105_106 : x_fetch q_k105 106 = x_st (x_push 108 (.int (6))) := rfl
theorem t105_106 (C : xF) (s n : Nat) (z : xS) : x_to q_k105 C s (n + 1) 106 z = x_nx q_k105 C s n ((x_st (x_push 108 (.int (6)))) C z) := x_to_at f105_106 C s n z
theorem f105_108 : x_fetch q_k105 108 = x_st (x_icle 115 111) := rfl
theorem t105_108 (C : xF) (s n : Nat) (z : xS) : x_to q_k105 C s (n + 1) 108 z = x_nx q_k105 C s n ((x_st (x_icle 115 111)) C z) := x_to_at f105_108 C s n z
theorem f105_111 : x_fetch q_k105 111 = x_st (x_push 112 (.int (1))) := rfl
theorem t105_111 (C : xF) (s n : Nat) (z : xS) : x_to q_k105 C s (n + 1) 111 z = x_nx q_k105 C s n ((x_st (x_push 112 (.int (1)))) C z) := x_to_at f105_111 C s n z
theorem f105_112 : x_fetch q_k105 112 = x_st (x_goto 116) := rfl
theorem t105_112 (C : xF) (s n : Nat) (z : xS) : x_to q_k105 C s (n + 1) 112 z = x_nx q_k105 C s n ((x_st (x_goto 116)) C z) := x_to_at f105_112 C s n z
theorem f105_115 : x_fetch q_k105 115 = x_st (x_push 116 (.int (0))) := rfl
theorem t105_115 (C : xF) (s n : Nat) (z : xS) : x_to q_k105 C s (n + 1) 115 z = x_nx q_k105 C s n ((x_st (x_push 116 (.int (0)))) C z) := x_to_at f105_115 C s n z
theorem f105_116 : x_fetch q_k105 116 = x_sti 117 1 := rfl
theorem t105_116 (C : xF) (s n : Nat) (z : xS) : x_to q_k105 C s (n + 1) 116 z = x_nx q_k105 C s n ((x_sti 117 1) C z) := x_to_at f105_116 C s n z
theorem f105_117 : x_fetch q_k105 117 = x_ldi 118 1 := rfl
theorem t105_117 (C : xF) (s n : Nat) (z : xS) : x_to q_k105 C s (n + 1) 117 z = x_nx q_k105 C s n ((x_ldi 118 1) C z) := x_to_at f105_117 C s n z
theorem f105_118 : x_fetch q_k105 118 = x_st (x_ifeq 138 121) := rfl
theorem t105_118 (C : xF) (s n : Nat) (z : xS) : x_to q_k105 C s (n + 1) 118 z = x_nx q_k105 C s n ((x_st (x_ifeq 138 121)) C z) := x_to_at f105_118 C s n z
theorem f105_121 : x_fetch q_k105 121 = x_lda 122 0 := rfl
theorem t105_121 (C : xF) (s n : Nat) (z : xS) : x_to q_k105 C s (n + 1) 121 z = x_nx q_k105 C s n ((x_lda 122 0) C z) := x_to_at f105_121 C s n z
theorem f105_122 : x_fetch q_k105 122 = x_st (x_push 124 (.int (6))) := rfl
theorem t105_122 (C : xF) (s n : Nat) (z : xS) : x_to q_k105 C s (n + 1) 122 z = x_nx q_k105 C s n ((x_st (x_push 124 (.int (6)))) C z) := x_to_at f105_122 C s n z
theorem f105_124 : x_fetch q_k105 124 = x_pf 127 8 22 (.int) := rfl
theorem t105_124 (C : xF) (s n : Nat) (z : xS) : x_to q_k105 C s (n + 1) 124 z = x_nx q_k105 C s n ((x_pf 127 8 22 (.int)) C z) := x_to_at f105_124 C s n z
theorem f105_127 : x_fetch q_k105 127 = x_lda 128 0 := rfl
theorem t105_127 (C : xF) (s n : Nat) (z : xS) : x_to q_k105 C s (n + 1) 127 z = x_nx q_k105 C s n ((x_lda 128 0) C z) := x_to_at f105_127 C s n z
theorem f105_128 : x_fetch q_k105 128 = x_lda 129 0 := rfl
theorem t105_128 (C : xF) (s n : Nat) (z : xS) : x_to q_k105 C s (n + 1) 128 z = x_nx q_k105 C s n ((x_lda 129 0) C z) := x_to_at f105_128 C s n z
theorem f105_129 : x_fetch q_k105 129 = x_gf 132 8 18 := rfl
theorem t105_129 (C : xF) (s n : Nat) (z : xS) : x_to q_k105 C s (n + 1) 129 z = x_nx q_k105 C s n ((x_gf 132 8 18) C z) := x_to_at f105_129 C s n z
theorem f105_132 : x_fetch q_k105 132 = x_st (x_push 134 (.int (6))) := rfl
theorem t105_132 (C : xF) (s n : Nat) (z : xS) : x_to q_k105 C s (n + 1) 132 z = x_nx q_k105 C s n ((x_st (x_push 134 (.int (6)))) C z) := x_to_at f105_132 C s n z
theorem f105_134 : x_fetch q_k105 134 = x_ald 135 0 := rfl
theorem t105_134 (C : xF) (s n : Nat) (z : xS) : x_to q_k105 C s (n + 1) 134 z = x_nx q_k105 C s n ((x_ald 135 0) C z) := x_to_at f105_134 C s n z
theorem f105_135 : x_fetch q_k105 135 = x_pf 138 8 21 (.int) := rfl
theorem t105_135 (C : xF) (s n : Nat) (z : xS) : x_to q_k105 C s (n + 1) 135 z = x_nx q_k105 C s n ((x_pf 138 8 21 (.int)) C z) := x_to_at f105_135 C s n z
theorem f105_138 : x_fetch q_k105 138 = x_lda 139 0 := rfl
theorem t105_138 (C : xF) (s n : Nat) (z : xS) : x_to q_k105 C s (n + 1) 138 z = x_nx q_k105 C s n ((x_lda 139 0) C z) := x_to_at f105_138 C s n z
theorem f105_139 : x_fetch q_k105 139 = x_st (x_push 141 (.int (124))) := rfl
theorem t105_139 (C : xF) (s n : Nat) (z : xS) : x_to q_k105 C s (n + 1) 139 z = x_nx q_k105 C s n ((x_st (x_push 141 (.int (124)))) C z) := x_to_at f105_139 C s n z
theorem f105_141 : x_fetch q_k105 141 = x_cv 144 96 2 8 := rfl
theorem t105_141 (C : xF) (s n : Nat) (z : xS) : x_to q_k105 C s (n + 1) 141 z = x_nx q_k105 C s n ((x_cv 144 96 2 8) C z) := x_to_at f105_141 C s n z
theorem f105_144 : x_fetch q_k105 144 = x_sti 145 2 := rfl
theorem t105_144 (C : xF) (s n : Nat) (z : xS) : x_to q_k105 C s (n + 1) 144 z = x_nx q_k105 C s n ((x_sti 145 2) C z) := x_to_at f105_144 C s n z
theorem f105_145 : x_fetch q_k105 145 = x_st (x_goto 83) := rfl
theorem t105_145 (C : xF) (s n : Nat) (z : xS) : x_to q_k105 C s (n + 1) 145 z = x_nx q_k105 C s n ((x_st (x_goto 83)) C z) := x_to_at f105_145 C s n z
theorem f105_148 : x_fetch q_k105 148 = x_lda 149 0 := rfl
theorem t105_148 (C : xF) (s n : Nat) (z : xS) : x_to q_k105 C s (n + 1) 148 z = x_nx q_k105 C s n ((x_lda 149 0) C z) := x_to_at f105_148 C s n z
theorem f105_149 : x_fetch q_k105 149 = x_gf 152 8 15 := rfl
theorem t105_149 (C : xF) (s n : Nat) (z : xS) : x_to q_k105 C s (n + 1) 149 z = x_nx q_k105 C s n ((x_gf 152 8 15) C z) := x_to_at f105_149 C s n z
theorem f105_152 : x_fetch q_k105 152 = x_st (x_ifne 179 155) := rfl
theorem t105_152 (C : xF) (s n : Nat) (z : xS) : x_to q_k105 C s (n + 1) 152 z = x_nx q_k105 C s n ((x_st (x_ifne 179 155)) C z) := x_to_at f105_152 C s n z
theorem f105_155 : x_fetch q_k105 155 = x_ldi 156 1 := rfl
theorem t105_155 (C : xF) (s n : Nat) (z : xS) : x_to q_k105 C s (n + 1) 155 z = x_nx q_k105 C s n ((x_ldi 156 1) C z) := x_to_at f105_155 C s n z
theorem f105_156 : x_fetch q_k105 156 = x_st (x_ifne 179 159) := rfl
theorem t105_156 (C : xF) (s n : Nat) (z : xS) : x_to q_k105 C s (n + 1) 156 z = x_nx q_k105 C s n ((x_st (x_ifne 179 159)) C z) := x_to_at f105_156 C s n z
theorem f105_159 : x_fetch q_k105 159 = x_lda 160 0 := rfl
theorem t105_159 (C : xF) (s n : Nat) (z : xS) : x_to q_k105 C s (n + 1) 159 z = x_nx q_k105 C s n ((x_lda 160 0) C z) := x_to_at f105_159 C s n z
theorem f105_160 : x_fetch q_k105 160 = x_gf 163 8 14 := rfl
theorem t105_160 (C : xF) (s n : Nat) (z : xS) : x_to q_k105 C s (n + 1) 160 z = x_nx q_k105 C s n ((x_gf 163 8 14) C z) := x_to_at f105_160 C s n z
set_option maxRecDepth 20000 in
theorem f105_163 : x_fetch q_k105 163 = x_lda 164 0 := rfl
theorem t105_163 (C : xF) (s n : Nat) (z : xS) : x_to q_k105 C s (n + 1) 163 z = x_nx q_k105 C s n ((x_lda 164 0) C z) := x_to_at f105_163 C s n z
set_option maxRecDepth 20000 in
theorem f105_164 : x_fetch q_k105 164 = x_gf 167 8 13 := rfl
theorem t105_164 (C : xF) (s n : Nat) (z : xS) : x_to q_k105 C s (n + 1) 164 z = x_nx q_k105 C s n ((x_gf 167 8 13) C z) := x_to_at f105_164 C s n z
set_option maxRecDepth 20000 in
theorem f105_167 : x_fetch q_k105 167 = x_st (x_iclt 179 170) := rfl
theorem t105_167 (C : xF) (s n : Nat) (z : xS) : x_to q_k105 C s (n + 1) 167 z = x_nx q_k105 C s n ((x_st (x_iclt 179 170)) C z) := x_to_at f105_167 C s n z
set_option maxRecDepth 20000 in
theorem f105_170 : x_fetch q_k105 170 = x_lda 171 0 := rfl
theorem t105_170 (C : xF) (s n : Nat) (z : xS) : x_to q_k105 C s (n + 1) 170 z = x_nx q_k105 C s n ((x_lda 171 0) C z) := x_to_at f105_170 C s n z
set_option maxRecDepth 20000 in
theorem f105_171 : x_fetch q_k105 171 = x_gf 174 8 21 := rfl
theorem t105_171 (C : xF) (s n : Nat) (z : xS) : x_to q_k105 C s (n + 1) 171 z = x_nx q_k105 C s n ((x_gf 174 8 21) C z) := x_to_at f105_171 C s n z
set_option maxRecDepth 20000 in
theorem f105_174 : x_fetch q_k105 174 = x_st (x_push 176 (.int (40))) := rfl
theorem t105_174 (C : xF) (s n : Nat) (z : xS) : x_to q_k105 C s (n + 1) 174 z = x_nx q_k105 C s n ((x_st (x_push 176 (.int (40)))) C z) := x_to_at f105_174 C s n z
set_option maxRecDepth 20000 in
theorem f105_176 : x_fetch q_k105 176 = x_st (x_icle 181 179) := rfl
theorem t105_176 (C : xF) (s n : Nat) (z : xS) : x_to q_k105 C s (n + 1) 176 z = x_nx q_k105 C s n ((x_st (x_icle 181 179)) C z) := x_to_at f105_176 C s n z
set_option maxRecDepth 20000 in
theorem f105_179 : x_fetch q_k105 179 = x_st (x_push 180 (.int (-1))) := rfl
theorem t105_179 (C : xF) (s n : Nat) (z : xS) : x_to q_k105 C s (n + 1) 179 z = x_nx q_k105 C s n ((x_st (x_push 180 (.int (-1)))) C z) := x_to_at f105_179 C s n z
set_option maxRecDepth 20000 in
theorem f105_180 : x_fetch q_k105 180 = x_ri (.int) := rfl
theorem t105_180 (C : xF) (s n : Nat) (z : xS) : x_to q_k105 C s (n + 1) 180 z = x_nx q_k105 C s n ((x_ri (.int)) C z) := x_to_at f105_180 C s n z
set_option maxRecDepth 20000 in
theorem f105_181 : x_fetch q_k105 181 = x_lda 182 0 := rfl
theorem t105_181 (C : xF) (s n : Nat) (z : xS) : x_to q_k105 C s (n + 1) 181 z = x_nx q_k105 C s n ((x_lda 182 0) C z) := x_to_at f105_181 C s n z
set_option maxRecDepth 20000 in
theorem f105_182 : x_fetch q_k105 182 = x_gf 185 8 16 := rfl
theorem t105_182 (C : xF) (s n : Nat) (z : xS) : x_to q_k105 C s (n + 1) 182 z = x_nx q_k105 C s n ((x_gf 185 8 16) C z) := x_to_at f105_182 C s n z
set_option maxRecDepth 20000 in
theorem f105_185 : x_fetch q_k105 185 = x_st (x_ifeq 193 188) := rfl
theorem t105_185 (C : xF) (s n : Nat) (z : xS) : x_to q_k105 C s (n + 1) 185 z = x_nx q_k105 C s n ((x_st (x_ifeq 193 188)) C z) := x_to_at f105_185 C s n z
set_option maxRecDepth 20000 in
theorem f105_188 : x_fetch q_k105 188 = x_st (x_push 190 (.int (-2))) := rfl
theorem t105_188 (C : xF) (s n : Nat) (z : xS) : x_to q_k105 C s (n + 1) 188 z = x_nx q_k105 C s n ((x_st (x_push 190 (.int (-2)))) C z) := x_to_at f105_188 C s n z
set_option maxRecDepth 20000 in
theorem f105_190 : x_fetch q_k105 190 = x_st (x_goto 194) := rfl
theorem t105_190 (C : xF) (s n : Nat) (z : xS) : x_to q_k105 C s (n + 1) 190 z = x_nx q_k105 C s n ((x_st (x_goto 194)) C z) := x_to_at f105_190 C s n z
set_option maxRecDepth 20000 in
theorem f105_193 : x_fetch q_k105 193 = x_st (x_push 194 (.int (0))) := rfl
theorem t105_193 (C : xF) (s n : Nat) (z : xS) : x_to q_k105 C s (n + 1) 193 z = x_nx q_k105 C s n ((x_st (x_push 194 (.int (0)))) C z) := x_to_at f105_193 C s n z
set_option maxRecDepth 20000 in
theorem f105_194 : x_fetch q_k105 194 = x_ri (.int) := rfl
theorem t105_194 (C : xF) (s n : Nat) (z : xS) : x_to q_k105 C s (n + 1) 194 z = x_nx q_k105 C s n ((x_ri (.int)) C z) := x_to_at f105_194 C s n z
theorem rdM_ok {n : Nat} {r A r1 : List Int} (h : rdM n r = some (A, r1)) : Ts 1 A ∧ r1.length < r.length ∧ ∀ s ∈ A, sgR s ∨ s = 99 := by
  unfold rdM at h
  split at h
  · cases h
  · next t hT =>
    split at h
    · cases h
    · cases h
      have := rdT_ok hT
      exact ⟨this.1, this.2, fun s hs => Or.inl (rdT_sg hT s hs)⟩
  · next t c r2 hT =>
    have o1 := rdT_ok hT
    split at h
    · split at h
      · cases h
      · next u r3 hU =>
        cases h
        have o2 := rdT_ok hU
        simp only [List.length_cons] at o1
        refine ⟨?_, by omega, fun s hs => ?_⟩
        · have := Ts_app o1.1 o2.1
          exact this
        · rcases List.mem_cons.mp hs with hs | hs
          · exact Or.inr hs
          · rcases List.mem_append.mp hs with hs | hs
            · exact Or.inl (rdT_sg hT s hs)
            · exact Or.inl (rdT_sg hU s hs)
    · split at h
      · cases h
      · cases h
        exact ⟨o1.1, o1.2, fun s hs => Or.inl (rdT_sg hT s hs)⟩
theorem rdL_ok {n : Nat} {r A r1 : List Int} {b : Int} (h : rdL n r = some ((b, A), r1)) : (b = 0 ∨ b = 1) ∧ Ts 1 A ∧ r1.length < r.length ∧ ∀ s ∈ A, sgR s ∨ s = 99 := by
  unfold rdL at h
  split at h
  · cases h
  · next c r2 =>
    split at h
    · cases hM : rdM n r2 with
      | none => rw [hM] at h; cases h
      | some q =>
        obtain ⟨A', r3⟩ := q
        rw [hM] at h
        cases h
        have := rdM_ok hM
        exact ⟨Or.inr rfl, this.1, by simp only [List.length_cons]; omega, this.2.2⟩
    · cases hM : rdM n (c :: r2) with
      | none => rw [hM] at h; cases h
      | some q =>
        obtain ⟨A', r3⟩ := q
        rw [hM] at h
        cases h
        have := rdM_ok hM
        exact ⟨Or.inl rfl, this.1, this.2.1, this.2.2⟩
def ntC : List (Int × List Int) → List Int × Bool → List Int × Bool
  | [], z => z
  | y :: l, z => ntC l (ntA y.2 z)
def rdQ (T : List Int) : Option (List (Int × List Int)) := if T = [35] then some [] else match rdC 30 61 T with
  | none => none
  | some l => if (uqs [] l).length ≤ 6 ∧ (flt (uqs [] l)).length ≤ 40 then some l else none
theorem uqs_ad (C : List (Int × List Int)) (y : Int × List Int) (l : List (Int × List Int)) : uqs C (y :: l) = uqs (adL C y) l := by
  unfold adL
  show (if y ∈ C then _ else _) = _
  by_cases hx : y ∈ C
  · rw [if_pos hx, if_pos hx]
  · rw [if_neg hx, if_neg hx]
theorem uqs_mono (l C : List (Int × List Int)) : C.length ≤ (uqs C l).length ∧ (flt C).length ≤ (flt (uqs C l)).length := by
  obtain ⟨r, e⟩ := uqs_pre l C
  rw [e, flt_app, List.length_append, List.length_append]
  omega
/-- what the reading gives, from a clause C on, with letters used as z says -/
def FinC (o : Option (List (Int × List Int))) (C : List (Int × List Int)) (ov : Bool) (z : List Int × Bool) (code : Int) (m' : Nat → Int) (x' : Nat → List Int) : Prop := match o with
  | none => code = -1
  | some l => (¬ (ov = false ∧ (uqs C l).length ≤ 6 ∧ (flt (uqs C l)).length ≤ 40) ∧ code = -1) ∨ ((ov = false ∧ (uqs C l).length ≤ 6 ∧ (flt (uqs C l)).length ≤ 40) ∧ (code = if (ntC l z).2 = true then -2 else 0) ∧ RW (uqs C l) (x' 38) (x' 39) (x' 41) ∧ vC (uqs C l) ∧ m' 8 = (uqs C l).length ∧ m' 7 = (flt (uqs C l)).length ∧ x' 36 = (ntC l z).1)
section RE
variable {N : Nat}
def E105 (d N : Nat) (w : Nat → xC) (m : Nat → Int) (x : Nat → List Int) (pc : Nat) (lv : xL) (P : Int → (Nat → Int) → (Nat → List Int) → Prop) : Prop := ∃ (w' : Nat → xC) (m' : Nat → Int) (x' : Nat → List Int) (code : Int), RO w' m' x' ∧ RI x' ∧ Fr ksL2 w w' ∧ (∀ j, ¬ j ∈ ksL → x' j = x j) ∧ mL m m' ∧ UOK (x' 36) ∧ P code m' x' ∧ Gx q_k105 (d + 4) pc (lv, [], hp w N) (some (.int (iZ code)), hp w' N)
theorem E105.back {d : Nat} {w w1 : Nat → xC} {m m1 : Nat → Int} {x x1 : Nat → List Int} {pc pc1 : Nat} {lv lv1 : xL} {P Q : Int → (Nat → Int) → (Nat → List Int) → Prop} (h : E105 d N w1 m1 x1 pc1 lv1 Q) (f : Fr ksL2 w w1) (e : ∀ j, ¬ j ∈ ksL → x1 j = x j) (g : mL m m1) (q : ∀ c m' x', Q c m' x' → P c m' x') (k : ∀ res, Gx q_k105 (d + 4) pc1 (lv1, [], hp w1 N) res → Gx q_k105 (d + 4) pc (lv, [], hp w N) res) : E105 d N w m x pc lv P := by
  obtain ⟨w', m', x', c, a1, a2, a3, a4, a5, a6, a7, a8⟩ := h
  exact ⟨w', m', x', c, a1, a2, f.tr a3, fun j hj => (a4 j hj).trans (e j hj), g.tr a5, a6, q _ _ _ a7, k _ a8⟩
def lR (lv : xL) (ov mo : Bool) : Prop := c1 lv ∧ x_lk lv 0 = some (.ref 30) ∧ x_lk lv 1 = some (.int (iZ (bZ ov))) ∧ x_lk lv 2 = some (.int (iZ (bZ mo)))
theorem lR.o {lv : xL} {ov mo : Bool} (h : lR lv ov mo) (e : Bool) : lR ((1, .int (iZ (bZ e))) :: lv.filter (x_keep 1)) e mo := by
  obtain ⟨h1, h2, h3, h4⟩ := h
  refine ⟨c1_st rfl h1, ?_, ?_, ?_⟩ <;> rw [lk_s h1]
  · exact h2
  · rfl
  · exact h4
theorem lR.m {lv : xL} {ov mo : Bool} (h : lR lv ov mo) (e : Bool) : lR ((2, .int (iZ (bZ e))) :: lv.filter (x_keep 2)) ov e := by
  obtain ⟨h1, h2, h3, h4⟩ := h
  refine ⟨c1_st rfl h1, ?_, ?_, ?_⟩ <;> rw [lk_s h1]
  · exact h2
  · exact h3
  · rfl
theorem q105_83 (d : Nat) {w : Nat → xC} {m : Nat → Int} {lv : xL} {ov : Bool} {w1 : Nat → xC} (hN : 53 ≤ N) (hm : w 27 = .inr (8, mF m)) (h5 : m 5 = 0) (hl : lR lv ov true) (X : Xc (d + 4) 103 [.ref 30] (hp w N) (none, hp w1 N)) : ∀ res, Gx q_k105 (d + 4) 98 (lv, [], hp w1 N) res → Gx q_k105 (d + 4) 83 (lv, [], hp w N) res := fun res hg => by
  obtain ⟨hc, p0, p1, p2⟩ := hl
  refine Gx.run 20 X (fun C mm => ?_) hg
  simp (disch := first | (refine c1_id ?_; assumption) | (refine c1_st rfl ?_; repeat (first | assumption | refine c1_st rfl ?_)) | omega) [nx_l, nx_r, nx_n, x_st, x_push, x_bin, x_div, x_un, x_dup, x_pop, x_dup2, x_goto, x_ifeq, x_ifne, x_iflt, x_ifge, x_ifgt, x_ifle, x_iceq, x_icne, x_iclt, x_icge, x_icgt, x_icle, x_ifnull, x_ifnonnull, x_ldi, x_lda, x_sti, x_sta, x_iinc, x_gf, x_pf, x_ald, x_ast, x_aln, x_len, x_cl_, x_cv, x_cs, x_rc, x_r0, x_isT, x_oi, x_rv, x_ri, x_ra, Value.category, t105_0, t105_1, t105_2, t105_5, t105_6, t105_7, t105_10, t105_11, t105_12, t105_15, t105_16, t105_19, t105_20, t105_21, t105_22, t105_23, t105_24, t105_27, t105_28, t105_29, t105_32, t105_33, t105_34, t105_35, t105_36, t105_37, t105_39, t105_42, t105_43, t105_46, t105_47, t105_48, t105_51, t105_52, t105_53, t105_54, t105_57, t105_60, t105_61, t105_64, t105_65, t105_68, t105_69, t105_72, t105_73, t105_74, t105_76, t105_79, t105_80, t105_81, t105_82, t105_83, t105_84, t105_87, t105_88, t105_91, t105_94, t105_95, t105_98, t105_99, t105_102, t105_103, t105_106, t105_108, t105_111, t105_112, t105_115, t105_116, t105_117, t105_118, t105_121, t105_122, t105_124, t105_127, t105_128, t105_129, t105_132, t105_134, t105_135, t105_138, t105_139, t105_141, t105_144, t105_145, t105_148, t105_149, t105_152, t105_155, t105_156, t105_159, t105_160, t105_163, t105_164, t105_167, t105_170, t105_171, t105_174, t105_176, t105_179, t105_180, t105_181, t105_182, t105_185, t105_188, t105_190, t105_193, t105_194, lk_s, hp_get, hp_set, uH_at, uH_ne, uH_upd, uH_swap, iZ_add, iZ_sub, iZ_mul, iZ_neg, iZ_lt, iZ_le, iZ_eq, iZ_div, iZ_of, ix_Z, gZ_map, gZ_mapI, gZ_map', le_0, le_s, sZ_map, sZ_len, bZ_0, bZ_inj, bZ_t, bZ_f, nr_i, nr_0, nr_1, nr_b, ft_i, ft_b, ft_0, ft_1, zl_0, zl_1, zl_2, zl_6, zl_26, zl_35, zl_40, zl_124, mF_len, mg_0, mg_1, mg_2, mg_3, mg_4, mg_5, mg_6, mg_7, mg_8, mg_9, mg_10, mg_11, mg_12, mg_13, mg_14, mg_15, mg_16, mg_17, mg_18, mg_19, mg_20, mg_21, mg_22, mg_23, mg_24, mg_25, mg_26, mg_27, mg_28, mg_29, mg_30, mg_31, mg_32, mg_33, mg_34, mg_35, mg_36, mg_37, mg_38, ms_0, ms_1, ms_2, ms_13, ms_14, ms_15, ms_16, ms_21, ms_22, ms_23, ms_24, ms_28, ms_36, ms_37, ms_38, st_at, st_ne, st_st, st_swap, p0, p1, p2, hm, h5, mm, -List.filter_filter, -List.getElem?_map, -List.getD_eq_getElem?_getD]
theorem q105_98n (d : Nat) {w : Nat → xC} {m : Nat → Int} {lv : xL} {mo : Bool} (hN : 53 ≤ N) (hm : w 27 = .inr (8, mF m)) (h8 : 0 ≤ m 8) (h8' : m 8 ≤ 6) (hl : lR lv false mo) : ∀ res, Gx q_k105 (d + 4) 138 ((1, .int (iZ (bZ false))) :: lv.filter (x_keep 1), [], hp w N) res → Gx q_k105 (d + 4) 98 (lv, [], hp w N) res := fun res hg => by
  obtain ⟨hc, p0, p1, p2⟩ := hl
  refine Gx.run 20 Cs.tt (fun C _ => ?_) hg
  simp (disch := first | (refine c1_id ?_; assumption) | (refine c1_st rfl ?_; repeat (first | assumption | refine c1_st rfl ?_)) | omega) [nx_l, nx_r, nx_n, x_st, x_push, x_bin, x_div, x_un, x_dup, x_pop, x_dup2, x_goto, x_ifeq, x_ifne, x_iflt, x_ifge, x_ifgt, x_ifle, x_iceq, x_icne, x_iclt, x_icge, x_icgt, x_icle, x_ifnull, x_ifnonnull, x_ldi, x_lda, x_sti, x_sta, x_iinc, x_gf, x_pf, x_ald, x_ast, x_aln, x_len, x_cl_, x_cv, x_cs, x_rc, x_r0, x_isT, x_oi, x_rv, x_ri, x_ra, Value.category, t105_0, t105_1, t105_2, t105_5, t105_6, t105_7, t105_10, t105_11, t105_12, t105_15, t105_16, t105_19, t105_20, t105_21, t105_22, t105_23, t105_24, t105_27, t105_28, t105_29, t105_32, t105_33, t105_34, t105_35, t105_36, t105_37, t105_39, t105_42, t105_43, t105_46, t105_47, t105_48, t105_51, t105_52, t105_53, t105_54, t105_57, t105_60, t105_61, t105_64, t105_65, t105_68, t105_69, t105_72, t105_73, t105_74, t105_76, t105_79, t105_80, t105_81, t105_82, t105_83, t105_84, t105_87, t105_88, t105_91, t105_94, t105_95, t105_98, t105_99, t105_102, t105_103, t105_106, t105_108, t105_111, t105_112, t105_115, t105_116, t105_117, t105_118, t105_121, t105_122, t105_124, t105_127, t105_128, t105_129, t105_132, t105_134, t105_135, t105_138, t105_139, t105_141, t105_144, t105_145, t105_148, t105_149, t105_152, t105_155, t105_156, t105_159, t105_160, t105_163, t105_164, t105_167, t105_170, t105_171, t105_174, t105_176, t105_179, t105_180, t105_181, t105_182, t105_185, t105_188, t105_190, t105_193, t105_194, lk_s, hp_get, hp_set, uH_at, uH_ne, uH_upd, uH_swap, iZ_add, iZ_sub, iZ_mul, iZ_neg, iZ_lt, iZ_le, iZ_eq, iZ_div, iZ_of, ix_Z, gZ_map, gZ_mapI, gZ_map', le_0, le_s, sZ_map, sZ_len, bZ_0, bZ_inj, bZ_t, bZ_f, nr_i, nr_0, nr_1, nr_b, ft_i, ft_b, ft_0, ft_1, zl_0, zl_1, zl_2, zl_6, zl_26, zl_35, zl_40, zl_124, mF_len, mg_0, mg_1, mg_2, mg_3, mg_4, mg_5, mg_6, mg_7, mg_8, mg_9, mg_10, mg_11, mg_12, mg_13, mg_14, mg_15, mg_16, mg_17, mg_18, mg_19, mg_20, mg_21, mg_22, mg_23, mg_24, mg_25, mg_26, mg_27, mg_28, mg_29, mg_30, mg_31, mg_32, mg_33, mg_34, mg_35, mg_36, mg_37, mg_38, ms_0, ms_1, ms_2, ms_13, ms_14, ms_15, ms_16, ms_21, ms_22, ms_23, ms_24, ms_28, ms_36, ms_37, ms_38, st_at, st_ne, st_st, st_swap, p0, p1, p2, hm, h8', -List.filter_filter, -List.getElem?_map, -List.getD_eq_getElem?_getD]
theorem q105_98y (d : Nat) {w : Nat → xC} {m : Nat → Int} {lv : xL} {ov mo : Bool} {Sa : List Int} (hN : 53 ≤ N) (hm : w 27 = .inr (8, mF m)) (h39 : w 39 = cI 0 Sa) (n39 : Sa.length = 14) (h8 : 0 ≤ m 8) (h8' : m 8 ≤ 7) (ho : ov = true ∨ 6 < m 8) (hl : lR lv ov mo) : ∀ res, Gx q_k105 (d + 4) 138 ((1, .int (iZ (bZ true))) :: lv.filter (x_keep 1), [], hp (uH w 27 (.inr (8, mF (st_ (st_ m 7 (gZ Sa 6)) 8 6)))) N) res → Gx q_k105 (d + 4) 98 (lv, [], hp w N) res := fun res hg => by
  obtain ⟨hc, p0, p1, p2⟩ := hl
  refine Gx.run 40 Cs.tt (fun C _ => ?_) hg
  cases ov with
  | true => simp (disch := first | (refine c1_id ?_; assumption) | (refine c1_st rfl ?_; repeat (first | assumption | refine c1_st rfl ?_)) | omega) [nx_l, nx_r, nx_n, x_st, x_push, x_bin, x_div, x_un, x_dup, x_pop, x_dup2, x_goto, x_ifeq, x_ifne, x_iflt, x_ifge, x_ifgt, x_ifle, x_iceq, x_icne, x_iclt, x_icge, x_icgt, x_icle, x_ifnull, x_ifnonnull, x_ldi, x_lda, x_sti, x_sta, x_iinc, x_gf, x_pf, x_ald, x_ast, x_aln, x_len, x_cl_, x_cv, x_cs, x_rc, x_r0, x_isT, x_oi, x_rv, x_ri, x_ra, Value.category, t105_0, t105_1, t105_2, t105_5, t105_6, t105_7, t105_10, t105_11, t105_12, t105_15, t105_16, t105_19, t105_20, t105_21, t105_22, t105_23, t105_24, t105_27, t105_28, t105_29, t105_32, t105_33, t105_34, t105_35, t105_36, t105_37, t105_39, t105_42, t105_43, t105_46, t105_47, t105_48, t105_51, t105_52, t105_53, t105_54, t105_57, t105_60, t105_61, t105_64, t105_65, t105_68, t105_69, t105_72, t105_73, t105_74, t105_76, t105_79, t105_80, t105_81, t105_82, t105_83, t105_84, t105_87, t105_88, t105_91, t105_94, t105_95, t105_98, t105_99, t105_102, t105_103, t105_106, t105_108, t105_111, t105_112, t105_115, t105_116, t105_117, t105_118, t105_121, t105_122, t105_124, t105_127, t105_128, t105_129, t105_132, t105_134, t105_135, t105_138, t105_139, t105_141, t105_144, t105_145, t105_148, t105_149, t105_152, t105_155, t105_156, t105_159, t105_160, t105_163, t105_164, t105_167, t105_170, t105_171, t105_174, t105_176, t105_179, t105_180, t105_181, t105_182, t105_185, t105_188, t105_190, t105_193, t105_194, lk_s, hp_get, hp_set, uH_at, uH_ne, uH_upd, uH_swap, iZ_add, iZ_sub, iZ_mul, iZ_neg, iZ_lt, iZ_le, iZ_eq, iZ_div, iZ_of, ix_Z, gZ_map, gZ_mapI, gZ_map', le_0, le_s, sZ_map, sZ_len, bZ_0, bZ_inj, bZ_t, bZ_f, nr_i, nr_0, nr_1, nr_b, ft_i, ft_b, ft_0, ft_1, zl_0, zl_1, zl_2, zl_6, zl_26, zl_35, zl_40, zl_124, mF_len, mg_0, mg_1, mg_2, mg_3, mg_4, mg_5, mg_6, mg_7, mg_8, mg_9, mg_10, mg_11, mg_12, mg_13, mg_14, mg_15, mg_16, mg_17, mg_18, mg_19, mg_20, mg_21, mg_22, mg_23, mg_24, mg_25, mg_26, mg_27, mg_28, mg_29, mg_30, mg_31, mg_32, mg_33, mg_34, mg_35, mg_36, mg_37, mg_38, ms_0, ms_1, ms_2, ms_13, ms_14, ms_15, ms_16, ms_21, ms_22, ms_23, ms_24, ms_28, ms_36, ms_37, ms_38, st_at, st_ne, st_st, st_swap, p0, p1, p2, hm, h39, -List.filter_filter, -List.getElem?_map, -List.getD_eq_getElem?_getD]
  | false =>
    have b1 : ¬ m 8 ≤ 6 := by
      rcases ho with ho | ho
      · cases ho
      · omega
    simp (disch := first | (refine c1_id ?_; assumption) | (refine c1_st rfl ?_; repeat (first | assumption | refine c1_st rfl ?_)) | omega) [nx_l, nx_r, nx_n, x_st, x_push, x_bin, x_div, x_un, x_dup, x_pop, x_dup2, x_goto, x_ifeq, x_ifne, x_iflt, x_ifge, x_ifgt, x_ifle, x_iceq, x_icne, x_iclt, x_icge, x_icgt, x_icle, x_ifnull, x_ifnonnull, x_ldi, x_lda, x_sti, x_sta, x_iinc, x_gf, x_pf, x_ald, x_ast, x_aln, x_len, x_cl_, x_cv, x_cs, x_rc, x_r0, x_isT, x_oi, x_rv, x_ri, x_ra, Value.category, t105_0, t105_1, t105_2, t105_5, t105_6, t105_7, t105_10, t105_11, t105_12, t105_15, t105_16, t105_19, t105_20, t105_21, t105_22, t105_23, t105_24, t105_27, t105_28, t105_29, t105_32, t105_33, t105_34, t105_35, t105_36, t105_37, t105_39, t105_42, t105_43, t105_46, t105_47, t105_48, t105_51, t105_52, t105_53, t105_54, t105_57, t105_60, t105_61, t105_64, t105_65, t105_68, t105_69, t105_72, t105_73, t105_74, t105_76, t105_79, t105_80, t105_81, t105_82, t105_83, t105_84, t105_87, t105_88, t105_91, t105_94, t105_95, t105_98, t105_99, t105_102, t105_103, t105_106, t105_108, t105_111, t105_112, t105_115, t105_116, t105_117, t105_118, t105_121, t105_122, t105_124, t105_127, t105_128, t105_129, t105_132, t105_134, t105_135, t105_138, t105_139, t105_141, t105_144, t105_145, t105_148, t105_149, t105_152, t105_155, t105_156, t105_159, t105_160, t105_163, t105_164, t105_167, t105_170, t105_171, t105_174, t105_176, t105_179, t105_180, t105_181, t105_182, t105_185, t105_188, t105_190, t105_193, t105_194, lk_s, hp_get, hp_set, uH_at, uH_ne, uH_upd, uH_swap, iZ_add, iZ_sub, iZ_mul, iZ_neg, iZ_lt, iZ_le, iZ_eq, iZ_div, iZ_of, ix_Z, gZ_map, gZ_mapI, gZ_map', le_0, le_s, sZ_map, sZ_len, bZ_0, bZ_inj, bZ_t, bZ_f, nr_i, nr_0, nr_1, nr_b, ft_i, ft_b, ft_0, ft_1, zl_0, zl_1, zl_2, zl_6, zl_26, zl_35, zl_40, zl_124, mF_len, mg_0, mg_1, mg_2, mg_3, mg_4, mg_5, mg_6, mg_7, mg_8, mg_9, mg_10, mg_11, mg_12, mg_13, mg_14, mg_15, mg_16, mg_17, mg_18, mg_19, mg_20, mg_21, mg_22, mg_23, mg_24, mg_25, mg_26, mg_27, mg_28, mg_29, mg_30, mg_31, mg_32, mg_33, mg_34, mg_35, mg_36, mg_37, mg_38, ms_0, ms_1, ms_2, ms_13, ms_14, ms_15, ms_16, ms_21, ms_22, ms_23, ms_24, ms_28, ms_36, ms_37, ms_38, st_at, st_ne, st_st, st_swap, p0, p1, p2, hm, h39, b1, -List.filter_filter, -List.getElem?_map, -List.getD_eq_getElem?_getD]
theorem q105_138 (d : Nat) {w w1 : Nat → xC} {m : Nat → Int} {lv : xL} {ov mo : Bool} (hN : 53 ≤ N) (hm : w 27 = .inr (8, mF m)) (bb : Bool) (hl : lR lv ov mo) (X : Xc (d + 4) 96 [.ref 30, .int (iZ 124)] (hp w N) (some (.int (iZ (bZ bb))), hp w1 N)) : ∀ res, Gx q_k105 (d + 4) 83 ((2, .int (iZ (bZ bb))) :: lv.filter (x_keep 2), [], hp w1 N) res → Gx q_k105 (d + 4) 138 (lv, [], hp w N) res := fun res hg => by
  obtain ⟨hc, p0, p1, p2⟩ := hl
  refine Gx.run 20 X (fun C mm => ?_) hg
  simp (disch := first | (refine c1_id ?_; assumption) | (refine c1_st rfl ?_; repeat (first | assumption | refine c1_st rfl ?_)) | omega) [nx_l, nx_r, nx_n, x_st, x_push, x_bin, x_div, x_un, x_dup, x_pop, x_dup2, x_goto, x_ifeq, x_ifne, x_iflt, x_ifge, x_ifgt, x_ifle, x_iceq, x_icne, x_iclt, x_icge, x_icgt, x_icle, x_ifnull, x_ifnonnull, x_ldi, x_lda, x_sti, x_sta, x_iinc, x_gf, x_pf, x_ald, x_ast, x_aln, x_len, x_cl_, x_cv, x_cs, x_rc, x_r0, x_isT, x_oi, x_rv, x_ri, x_ra, Value.category, t105_0, t105_1, t105_2, t105_5, t105_6, t105_7, t105_10, t105_11, t105_12, t105_15, t105_16, t105_19, t105_20, t105_21, t105_22, t105_23, t105_24, t105_27, t105_28, t105_29, t105_32, t105_33, t105_34, t105_35, t105_36, t105_37, t105_39, t105_42, t105_43, t105_46, t105_47, t105_48, t105_51, t105_52, t105_53, t105_54, t105_57, t105_60, t105_61, t105_64, t105_65, t105_68, t105_69, t105_72, t105_73, t105_74, t105_76, t105_79, t105_80, t105_81, t105_82, t105_83, t105_84, t105_87, t105_88, t105_91, t105_94, t105_95, t105_98, t105_99, t105_102, t105_103, t105_106, t105_108, t105_111, t105_112, t105_115, t105_116, t105_117, t105_118, t105_121, t105_122, t105_124, t105_127, t105_128, t105_129, t105_132, t105_134, t105_135, t105_138, t105_139, t105_141, t105_144, t105_145, t105_148, t105_149, t105_152, t105_155, t105_156, t105_159, t105_160, t105_163, t105_164, t105_167, t105_170, t105_171, t105_174, t105_176, t105_179, t105_180, t105_181, t105_182, t105_185, t105_188, t105_190, t105_193, t105_194, lk_s, hp_get, hp_set, uH_at, uH_ne, uH_upd, uH_swap, iZ_add, iZ_sub, iZ_mul, iZ_neg, iZ_lt, iZ_le, iZ_eq, iZ_div, iZ_of, ix_Z, gZ_map, gZ_mapI, gZ_map', le_0, le_s, sZ_map, sZ_len, bZ_0, bZ_inj, bZ_t, bZ_f, nr_i, nr_0, nr_1, nr_b, ft_i, ft_b, ft_0, ft_1, zl_0, zl_1, zl_2, zl_6, zl_26, zl_35, zl_40, zl_124, mF_len, mg_0, mg_1, mg_2, mg_3, mg_4, mg_5, mg_6, mg_7, mg_8, mg_9, mg_10, mg_11, mg_12, mg_13, mg_14, mg_15, mg_16, mg_17, mg_18, mg_19, mg_20, mg_21, mg_22, mg_23, mg_24, mg_25, mg_26, mg_27, mg_28, mg_29, mg_30, mg_31, mg_32, mg_33, mg_34, mg_35, mg_36, mg_37, mg_38, ms_0, ms_1, ms_2, ms_13, ms_14, ms_15, ms_16, ms_21, ms_22, ms_23, ms_24, ms_28, ms_36, ms_37, ms_38, st_at, st_ne, st_st, st_swap, p0, p1, p2, hm, mm, -List.filter_filter, -List.getElem?_map, -List.getD_eq_getElem?_getD]
theorem q105_bad (d : Nat) {w : Nat → xC} {m : Nat → Int} {lv : xL} {ov mo : Bool} (hN : 53 ≤ N) (hm : w 27 = .inr (8, mF m)) (h5 : m 5 = 1) (hl : lR lv ov mo) : Gx q_k105 (d + 4) 83 (lv, [], hp w N) (some (.int (iZ (-1))), hp w N) := by
  obtain ⟨hc, p0, p1, p2⟩ := hl
  refine Gx.fin 40 Cs.tt (fun C _ => ?_)
  cases mo
  · simp (disch := first | (refine c1_id ?_; assumption) | (refine c1_st rfl ?_; repeat (first | assumption | refine c1_st rfl ?_)) | omega) [nx_l, nx_r, nx_n, x_st, x_push, x_bin, x_div, x_un, x_dup, x_pop, x_dup2, x_goto, x_ifeq, x_ifne, x_iflt, x_ifge, x_ifgt, x_ifle, x_iceq, x_icne, x_iclt, x_icge, x_icgt, x_icle, x_ifnull, x_ifnonnull, x_ldi, x_lda, x_sti, x_sta, x_iinc, x_gf, x_pf, x_ald, x_ast, x_aln, x_len, x_cl_, x_cv, x_cs, x_rc, x_r0, x_isT, x_oi, x_rv, x_ri, x_ra, Value.category, t105_0, t105_1, t105_2, t105_5, t105_6, t105_7, t105_10, t105_11, t105_12, t105_15, t105_16, t105_19, t105_20, t105_21, t105_22, t105_23, t105_24, t105_27, t105_28, t105_29, t105_32, t105_33, t105_34, t105_35, t105_36, t105_37, t105_39, t105_42, t105_43, t105_46, t105_47, t105_48, t105_51, t105_52, t105_53, t105_54, t105_57, t105_60, t105_61, t105_64, t105_65, t105_68, t105_69, t105_72, t105_73, t105_74, t105_76, t105_79, t105_80, t105_81, t105_82, t105_83, t105_84, t105_87, t105_88, t105_91, t105_94, t105_95, t105_98, t105_99, t105_102, t105_103, t105_106, t105_108, t105_111, t105_112, t105_115, t105_116, t105_117, t105_118, t105_121, t105_122, t105_124, t105_127, t105_128, t105_129, t105_132, t105_134, t105_135, t105_138, t105_139, t105_141, t105_144, t105_145, t105_148, t105_149, t105_152, t105_155, t105_156, t105_159, t105_160, t105_163, t105_164, t105_167, t105_170, t105_171, t105_174, t105_176, t105_179, t105_180, t105_181, t105_182, t105_185, t105_188, t105_190, t105_193, t105_194, lk_s, hp_get, hp_set, uH_at, uH_ne, uH_upd, uH_swap, iZ_add, iZ_sub, iZ_mul, iZ_neg, iZ_lt, iZ_le, iZ_eq, iZ_div, iZ_of, ix_Z, gZ_map, gZ_mapI, gZ_map', le_0, le_s, sZ_map, sZ_len, bZ_0, bZ_inj, bZ_t, bZ_f, nr_i, nr_0, nr_1, nr_b, ft_i, ft_b, ft_0, ft_1, zl_0, zl_1, zl_2, zl_6, zl_26, zl_35, zl_40, zl_124, mF_len, mg_0, mg_1, mg_2, mg_3, mg_4, mg_5, mg_6, mg_7, mg_8, mg_9, mg_10, mg_11, mg_12, mg_13, mg_14, mg_15, mg_16, mg_17, mg_18, mg_19, mg_20, mg_21, mg_22, mg_23, mg_24, mg_25, mg_26, mg_27, mg_28, mg_29, mg_30, mg_31, mg_32, mg_33, mg_34, mg_35, mg_36, mg_37, mg_38, ms_0, ms_1, ms_2, ms_13, ms_14, ms_15, ms_16, ms_21, ms_22, ms_23, ms_24, ms_28, ms_36, ms_37, ms_38, st_at, st_ne, st_st, st_swap, p0, p1, p2, hm, h5, -List.filter_filter, -List.getElem?_map, -List.getD_eq_getElem?_getD]
  · simp (disch := first | (refine c1_id ?_; assumption) | (refine c1_st rfl ?_; repeat (first | assumption | refine c1_st rfl ?_)) | omega) [nx_l, nx_r, nx_n, x_st, x_push, x_bin, x_div, x_un, x_dup, x_pop, x_dup2, x_goto, x_ifeq, x_ifne, x_iflt, x_ifge, x_ifgt, x_ifle, x_iceq, x_icne, x_iclt, x_icge, x_icgt, x_icle, x_ifnull, x_ifnonnull, x_ldi, x_lda, x_sti, x_sta, x_iinc, x_gf, x_pf, x_ald, x_ast, x_aln, x_len, x_cl_, x_cv, x_cs, x_rc, x_r0, x_isT, x_oi, x_rv, x_ri, x_ra, Value.category, t105_0, t105_1, t105_2, t105_5, t105_6, t105_7, t105_10, t105_11, t105_12, t105_15, t105_16, t105_19, t105_20, t105_21, t105_22, t105_23, t105_24, t105_27, t105_28, t105_29, t105_32, t105_33, t105_34, t105_35, t105_36, t105_37, t105_39, t105_42, t105_43, t105_46, t105_47, t105_48, t105_51, t105_52, t105_53, t105_54, t105_57, t105_60, t105_61, t105_64, t105_65, t105_68, t105_69, t105_72, t105_73, t105_74, t105_76, t105_79, t105_80, t105_81, t105_82, t105_83, t105_84, t105_87, t105_88, t105_91, t105_94, t105_95, t105_98, t105_99, t105_102, t105_103, t105_106, t105_108, t105_111, t105_112, t105_115, t105_116, t105_117, t105_118, t105_121, t105_122, t105_124, t105_127, t105_128, t105_129, t105_132, t105_134, t105_135, t105_138, t105_139, t105_141, t105_144, t105_145, t105_148, t105_149, t105_152, t105_155, t105_156, t105_159, t105_160, t105_163, t105_164, t105_167, t105_170, t105_171, t105_174, t105_176, t105_179, t105_180, t105_181, t105_182, t105_185, t105_188, t105_190, t105_193, t105_194, lk_s, hp_get, hp_set, uH_at, uH_ne, uH_upd, uH_swap, iZ_add, iZ_sub, iZ_mul, iZ_neg, iZ_lt, iZ_le, iZ_eq, iZ_div, iZ_of, ix_Z, gZ_map, gZ_mapI, gZ_map', le_0, le_s, sZ_map, sZ_len, bZ_0, bZ_inj, bZ_t, bZ_f, nr_i, nr_0, nr_1, nr_b, ft_i, ft_b, ft_0, ft_1, zl_0, zl_1, zl_2, zl_6, zl_26, zl_35, zl_40, zl_124, mF_len, mg_0, mg_1, mg_2, mg_3, mg_4, mg_5, mg_6, mg_7, mg_8, mg_9, mg_10, mg_11, mg_12, mg_13, mg_14, mg_15, mg_16, mg_17, mg_18, mg_19, mg_20, mg_21, mg_22, mg_23, mg_24, mg_25, mg_26, mg_27, mg_28, mg_29, mg_30, mg_31, mg_32, mg_33, mg_34, mg_35, mg_36, mg_37, mg_38, ms_0, ms_1, ms_2, ms_13, ms_14, ms_15, ms_16, ms_21, ms_22, ms_23, ms_24, ms_28, ms_36, ms_37, ms_38, st_at, st_ne, st_st, st_swap, p0, p1, p2, hm, h5, -List.filter_filter, -List.getElem?_map, -List.getD_eq_getElem?_getD]
theorem q105_end (d : Nat) {w : Nat → xC} {m : Nat → Int} {lv : xL} {ov : Bool} (hN : 53 ≤ N) (hm : w 27 = .inr (8, mF m)) (h5 : m 5 = 0) (u : Bool) (h6 : m 6 = bZ u) (h4 : 0 ≤ m 4) (h43 : m 4 ≤ m 3) (h3 : m 3 ≤ 60) (h7 : 0 ≤ m 7) (h7' : m 7 ≤ 60) (hl : lR lv ov false) : ∃ code : Int, (code = if ov = false ∧ m 4 = m 3 ∧ m 7 ≤ 40 then (if u = true then -2 else 0) else -1) ∧ Gx q_k105 (d + 4) 83 (lv, [], hp w N) (some (.int (iZ code)), hp w N) := by
  obtain ⟨hc, p0, p1, p2⟩ := hl
  cases ov with
  | true =>
    refine ⟨-1, by rw [if_neg (by simp)], Gx.fin 60 Cs.tt (fun C _ => ?_)⟩
    simp (disch := first | (refine c1_id ?_; assumption) | (refine c1_st rfl ?_; repeat (first | assumption | refine c1_st rfl ?_)) | omega) [nx_l, nx_r, nx_n, x_st, x_push, x_bin, x_div, x_un, x_dup, x_pop, x_dup2, x_goto, x_ifeq, x_ifne, x_iflt, x_ifge, x_ifgt, x_ifle, x_iceq, x_icne, x_iclt, x_icge, x_icgt, x_icle, x_ifnull, x_ifnonnull, x_ldi, x_lda, x_sti, x_sta, x_iinc, x_gf, x_pf, x_ald, x_ast, x_aln, x_len, x_cl_, x_cv, x_cs, x_rc, x_r0, x_isT, x_oi, x_rv, x_ri, x_ra, Value.category, t105_0, t105_1, t105_2, t105_5, t105_6, t105_7, t105_10, t105_11, t105_12, t105_15, t105_16, t105_19, t105_20, t105_21, t105_22, t105_23, t105_24, t105_27, t105_28, t105_29, t105_32, t105_33, t105_34, t105_35, t105_36, t105_37, t105_39, t105_42, t105_43, t105_46, t105_47, t105_48, t105_51, t105_52, t105_53, t105_54, t105_57, t105_60, t105_61, t105_64, t105_65, t105_68, t105_69, t105_72, t105_73, t105_74, t105_76, t105_79, t105_80, t105_81, t105_82, t105_83, t105_84, t105_87, t105_88, t105_91, t105_94, t105_95, t105_98, t105_99, t105_102, t105_103, t105_106, t105_108, t105_111, t105_112, t105_115, t105_116, t105_117, t105_118, t105_121, t105_122, t105_124, t105_127, t105_128, t105_129, t105_132, t105_134, t105_135, t105_138, t105_139, t105_141, t105_144, t105_145, t105_148, t105_149, t105_152, t105_155, t105_156, t105_159, t105_160, t105_163, t105_164, t105_167, t105_170, t105_171, t105_174, t105_176, t105_179, t105_180, t105_181, t105_182, t105_185, t105_188, t105_190, t105_193, t105_194, lk_s, hp_get, hp_set, uH_at, uH_ne, uH_upd, uH_swap, iZ_add, iZ_sub, iZ_mul, iZ_neg, iZ_lt, iZ_le, iZ_eq, iZ_div, iZ_of, ix_Z, gZ_map, gZ_mapI, gZ_map', le_0, le_s, sZ_map, sZ_len, bZ_0, bZ_inj, bZ_t, bZ_f, nr_i, nr_0, nr_1, nr_b, ft_i, ft_b, ft_0, ft_1, zl_0, zl_1, zl_2, zl_6, zl_26, zl_35, zl_40, zl_124, mF_len, mg_0, mg_1, mg_2, mg_3, mg_4, mg_5, mg_6, mg_7, mg_8, mg_9, mg_10, mg_11, mg_12, mg_13, mg_14, mg_15, mg_16, mg_17, mg_18, mg_19, mg_20, mg_21, mg_22, mg_23, mg_24, mg_25, mg_26, mg_27, mg_28, mg_29, mg_30, mg_31, mg_32, mg_33, mg_34, mg_35, mg_36, mg_37, mg_38, ms_0, ms_1, ms_2, ms_13, ms_14, ms_15, ms_16, ms_21, ms_22, ms_23, ms_24, ms_28, ms_36, ms_37, ms_38, st_at, st_ne, st_st, st_swap, p0, p1, p2, hm, h5, -List.filter_filter, -List.getElem?_map, -List.getD_eq_getElem?_getD]
  | false =>
    by_cases b1 : m 4 < m 3
    · refine ⟨-1, by rw [if_neg (by omega)], Gx.fin 60 Cs.tt (fun C _ => ?_)⟩
      simp (disch := first | (refine c1_id ?_; assumption) | (refine c1_st rfl ?_; repeat (first | assumption | refine c1_st rfl ?_)) | omega) [nx_l, nx_r, nx_n, x_st, x_push, x_bin, x_div, x_un, x_dup, x_pop, x_dup2, x_goto, x_ifeq, x_ifne, x_iflt, x_ifge, x_ifgt, x_ifle, x_iceq, x_icne, x_iclt, x_icge, x_icgt, x_icle, x_ifnull, x_ifnonnull, x_ldi, x_lda, x_sti, x_sta, x_iinc, x_gf, x_pf, x_ald, x_ast, x_aln, x_len, x_cl_, x_cv, x_cs, x_rc, x_r0, x_isT, x_oi, x_rv, x_ri, x_ra, Value.category, t105_0, t105_1, t105_2, t105_5, t105_6, t105_7, t105_10, t105_11, t105_12, t105_15, t105_16, t105_19, t105_20, t105_21, t105_22, t105_23, t105_24, t105_27, t105_28, t105_29, t105_32, t105_33, t105_34, t105_35, t105_36, t105_37, t105_39, t105_42, t105_43, t105_46, t105_47, t105_48, t105_51, t105_52, t105_53, t105_54, t105_57, t105_60, t105_61, t105_64, t105_65, t105_68, t105_69, t105_72, t105_73, t105_74, t105_76, t105_79, t105_80, t105_81, t105_82, t105_83, t105_84, t105_87, t105_88, t105_91, t105_94, t105_95, t105_98, t105_99, t105_102, t105_103, t105_106, t105_108, t105_111, t105_112, t105_115, t105_116, t105_117, t105_118, t105_121, t105_122, t105_124, t105_127, t105_128, t105_129, t105_132, t105_134, t105_135, t105_138, t105_139, t105_141, t105_144, t105_145, t105_148, t105_149, t105_152, t105_155, t105_156, t105_159, t105_160, t105_163, t105_164, t105_167, t105_170, t105_171, t105_174, t105_176, t105_179, t105_180, t105_181, t105_182, t105_185, t105_188, t105_190, t105_193, t105_194, lk_s, hp_get, hp_set, uH_at, uH_ne, uH_upd, uH_swap, iZ_add, iZ_sub, iZ_mul, iZ_neg, iZ_lt, iZ_le, iZ_eq, iZ_div, iZ_of, ix_Z, gZ_map, gZ_mapI, gZ_map', le_0, le_s, sZ_map, sZ_len, bZ_0, bZ_inj, bZ_t, bZ_f, nr_i, nr_0, nr_1, nr_b, ft_i, ft_b, ft_0, ft_1, zl_0, zl_1, zl_2, zl_6, zl_26, zl_35, zl_40, zl_124, mF_len, mg_0, mg_1, mg_2, mg_3, mg_4, mg_5, mg_6, mg_7, mg_8, mg_9, mg_10, mg_11, mg_12, mg_13, mg_14, mg_15, mg_16, mg_17, mg_18, mg_19, mg_20, mg_21, mg_22, mg_23, mg_24, mg_25, mg_26, mg_27, mg_28, mg_29, mg_30, mg_31, mg_32, mg_33, mg_34, mg_35, mg_36, mg_37, mg_38, ms_0, ms_1, ms_2, ms_13, ms_14, ms_15, ms_16, ms_21, ms_22, ms_23, ms_24, ms_28, ms_36, ms_37, ms_38, st_at, st_ne, st_st, st_swap, p0, p1, p2, hm, h5, b1, -List.filter_filter, -List.getElem?_map, -List.getD_eq_getElem?_getD]
    · by_cases b2 : m 7 ≤ 40
      · cases u with
        | true =>
          refine ⟨-2, by rw [if_pos ⟨rfl, by omega, b2⟩, if_pos rfl], Gx.fin 60 Cs.tt (fun C _ => ?_)⟩
          rw [bZ_t] at h6
          simp (disch := first | (refine c1_id ?_; assumption) | (refine c1_st rfl ?_; repeat (first | assumption | refine c1_st rfl ?_)) | omega) [nx_l, nx_r, nx_n, x_st, x_push, x_bin, x_div, x_un, x_dup, x_pop, x_dup2, x_goto, x_ifeq, x_ifne, x_iflt, x_ifge, x_ifgt, x_ifle, x_iceq, x_icne, x_iclt, x_icge, x_icgt, x_icle, x_ifnull, x_ifnonnull, x_ldi, x_lda, x_sti, x_sta, x_iinc, x_gf, x_pf, x_ald, x_ast, x_aln, x_len, x_cl_, x_cv, x_cs, x_rc, x_r0, x_isT, x_oi, x_rv, x_ri, x_ra, Value.category, t105_0, t105_1, t105_2, t105_5, t105_6, t105_7, t105_10, t105_11, t105_12, t105_15, t105_16, t105_19, t105_20, t105_21, t105_22, t105_23, t105_24, t105_27, t105_28, t105_29, t105_32, t105_33, t105_34, t105_35, t105_36, t105_37, t105_39, t105_42, t105_43, t105_46, t105_47, t105_48, t105_51, t105_52, t105_53, t105_54, t105_57, t105_60, t105_61, t105_64, t105_65, t105_68, t105_69, t105_72, t105_73, t105_74, t105_76, t105_79, t105_80, t105_81, t105_82, t105_83, t105_84, t105_87, t105_88, t105_91, t105_94, t105_95, t105_98, t105_99, t105_102, t105_103, t105_106, t105_108, t105_111, t105_112, t105_115, t105_116, t105_117, t105_118, t105_121, t105_122, t105_124, t105_127, t105_128, t105_129, t105_132, t105_134, t105_135, t105_138, t105_139, t105_141, t105_144, t105_145, t105_148, t105_149, t105_152, t105_155, t105_156, t105_159, t105_160, t105_163, t105_164, t105_167, t105_170, t105_171, t105_174, t105_176, t105_179, t105_180, t105_181, t105_182, t105_185, t105_188, t105_190, t105_193, t105_194, lk_s, hp_get, hp_set, uH_at, uH_ne, uH_upd, uH_swap, iZ_add, iZ_sub, iZ_mul, iZ_neg, iZ_lt, iZ_le, iZ_eq, iZ_div, iZ_of, ix_Z, gZ_map, gZ_mapI, gZ_map', le_0, le_s, sZ_map, sZ_len, bZ_0, bZ_inj, bZ_t, bZ_f, nr_i, nr_0, nr_1, nr_b, ft_i, ft_b, ft_0, ft_1, zl_0, zl_1, zl_2, zl_6, zl_26, zl_35, zl_40, zl_124, mF_len, mg_0, mg_1, mg_2, mg_3, mg_4, mg_5, mg_6, mg_7, mg_8, mg_9, mg_10, mg_11, mg_12, mg_13, mg_14, mg_15, mg_16, mg_17, mg_18, mg_19, mg_20, mg_21, mg_22, mg_23, mg_24, mg_25, mg_26, mg_27, mg_28, mg_29, mg_30, mg_31, mg_32, mg_33, mg_34, mg_35, mg_36, mg_37, mg_38, ms_0, ms_1, ms_2, ms_13, ms_14, ms_15, ms_16, ms_21, ms_22, ms_23, ms_24, ms_28, ms_36, ms_37, ms_38, st_at, st_ne, st_st, st_swap, p0, p1, p2, hm, h5, h6, b1, b2, -List.filter_filter, -List.getElem?_map, -List.getD_eq_getElem?_getD]
        | false =>
          refine ⟨0, by rw [if_pos ⟨rfl, by omega, b2⟩, if_neg (by decide)], Gx.fin 60 Cs.tt (fun C _ => ?_)⟩
          rw [bZ_f] at h6
          simp (disch := first | (refine c1_id ?_; assumption) | (refine c1_st rfl ?_; repeat (first | assumption | refine c1_st rfl ?_)) | omega) [nx_l, nx_r, nx_n, x_st, x_push, x_bin, x_div, x_un, x_dup, x_pop, x_dup2, x_goto, x_ifeq, x_ifne, x_iflt, x_ifge, x_ifgt, x_ifle, x_iceq, x_icne, x_iclt, x_icge, x_icgt, x_icle, x_ifnull, x_ifnonnull, x_ldi, x_lda, x_sti, x_sta, x_iinc, x_gf, x_pf, x_ald, x_ast, x_aln, x_len, x_cl_, x_cv, x_cs, x_rc, x_r0, x_isT, x_oi, x_rv, x_ri, x_ra, Value.category, t105_0, t105_1, t105_2, t105_5, t105_6, t105_7, t105_10, t105_11, t105_12, t105_15, t105_16, t105_19, t105_20, t105_21, t105_22, t105_23, t105_24, t105_27, t105_28, t105_29, t105_32, t105_33, t105_34, t105_35, t105_36, t105_37, t105_39, t105_42, t105_43, t105_46, t105_47, t105_48, t105_51, t105_52, t105_53, t105_54, t105_57, t105_60, t105_61, t105_64, t105_65, t105_68, t105_69, t105_72, t105_73, t105_74, t105_76, t105_79, t105_80, t105_81, t105_82, t105_83, t105_84, t105_87, t105_88, t105_91, t105_94, t105_95, t105_98, t105_99, t105_102, t105_103, t105_106, t105_108, t105_111, t105_112, t105_115, t105_116, t105_117, t105_118, t105_121, t105_122, t105_124, t105_127, t105_128, t105_129, t105_132, t105_134, t105_135, t105_138, t105_139, t105_141, t105_144, t105_145, t105_148, t105_149, t105_152, t105_155, t105_156, t105_159, t105_160, t105_163, t105_164, t105_167, t105_170, t105_171, t105_174, t105_176, t105_179, t105_180, t105_181, t105_182, t105_185, t105_188, t105_190, t105_193, t105_194, lk_s, hp_get, hp_set, uH_at, uH_ne, uH_upd, uH_swap, iZ_add, iZ_sub, iZ_mul, iZ_neg, iZ_lt, iZ_le, iZ_eq, iZ_div, iZ_of, ix_Z, gZ_map, gZ_mapI, gZ_map', le_0, le_s, sZ_map, sZ_len, bZ_0, bZ_inj, bZ_t, bZ_f, nr_i, nr_0, nr_1, nr_b, ft_i, ft_b, ft_0, ft_1, zl_0, zl_1, zl_2, zl_6, zl_26, zl_35, zl_40, zl_124, mF_len, mg_0, mg_1, mg_2, mg_3, mg_4, mg_5, mg_6, mg_7, mg_8, mg_9, mg_10, mg_11, mg_12, mg_13, mg_14, mg_15, mg_16, mg_17, mg_18, mg_19, mg_20, mg_21, mg_22, mg_23, mg_24, mg_25, mg_26, mg_27, mg_28, mg_29, mg_30, mg_31, mg_32, mg_33, mg_34, mg_35, mg_36, mg_37, mg_38, ms_0, ms_1, ms_2, ms_13, ms_14, ms_15, ms_16, ms_21, ms_22, ms_23, ms_24, ms_28, ms_36, ms_37, ms_38, st_at, st_ne, st_st, st_swap, p0, p1, p2, hm, h5, h6, b1, b2, -List.filter_filter, -List.getElem?_map, -List.getD_eq_getElem?_getD]
      · refine ⟨-1, by rw [if_neg (fun z => b2 z.2.2)], Gx.fin 60 Cs.tt (fun C _ => ?_)⟩
        simp (disch := first | (refine c1_id ?_; assumption) | (refine c1_st rfl ?_; repeat (first | assumption | refine c1_st rfl ?_)) | omega) [nx_l, nx_r, nx_n, x_st, x_push, x_bin, x_div, x_un, x_dup, x_pop, x_dup2, x_goto, x_ifeq, x_ifne, x_iflt, x_ifge, x_ifgt, x_ifle, x_iceq, x_icne, x_iclt, x_icge, x_icgt, x_icle, x_ifnull, x_ifnonnull, x_ldi, x_lda, x_sti, x_sta, x_iinc, x_gf, x_pf, x_ald, x_ast, x_aln, x_len, x_cl_, x_cv, x_cs, x_rc, x_r0, x_isT, x_oi, x_rv, x_ri, x_ra, Value.category, t105_0, t105_1, t105_2, t105_5, t105_6, t105_7, t105_10, t105_11, t105_12, t105_15, t105_16, t105_19, t105_20, t105_21, t105_22, t105_23, t105_24, t105_27, t105_28, t105_29, t105_32, t105_33, t105_34, t105_35, t105_36, t105_37, t105_39, t105_42, t105_43, t105_46, t105_47, t105_48, t105_51, t105_52, t105_53, t105_54, t105_57, t105_60, t105_61, t105_64, t105_65, t105_68, t105_69, t105_72, t105_73, t105_74, t105_76, t105_79, t105_80, t105_81, t105_82, t105_83, t105_84, t105_87, t105_88, t105_91, t105_94, t105_95, t105_98, t105_99, t105_102, t105_103, t105_106, t105_108, t105_111, t105_112, t105_115, t105_116, t105_117, t105_118, t105_121, t105_122, t105_124, t105_127, t105_128, t105_129, t105_132, t105_134, t105_135, t105_138, t105_139, t105_141, t105_144, t105_145, t105_148, t105_149, t105_152, t105_155, t105_156, t105_159, t105_160, t105_163, t105_164, t105_167, t105_170, t105_171, t105_174, t105_176, t105_179, t105_180, t105_181, t105_182, t105_185, t105_188, t105_190, t105_193, t105_194, lk_s, hp_get, hp_set, uH_at, uH_ne, uH_upd, uH_swap, iZ_add, iZ_sub, iZ_mul, iZ_neg, iZ_lt, iZ_le, iZ_eq, iZ_div, iZ_of, ix_Z, gZ_map, gZ_mapI, gZ_map', le_0, le_s, sZ_map, sZ_len, bZ_0, bZ_inj, bZ_t, bZ_f, nr_i, nr_0, nr_1, nr_b, ft_i, ft_b, ft_0, ft_1, zl_0, zl_1, zl_2, zl_6, zl_26, zl_35, zl_40, zl_124, mF_len, mg_0, mg_1, mg_2, mg_3, mg_4, mg_5, mg_6, mg_7, mg_8, mg_9, mg_10, mg_11, mg_12, mg_13, mg_14, mg_15, mg_16, mg_17, mg_18, mg_19, mg_20, mg_21, mg_22, mg_23, mg_24, mg_25, mg_26, mg_27, mg_28, mg_29, mg_30, mg_31, mg_32, mg_33, mg_34, mg_35, mg_36, mg_37, mg_38, ms_0, ms_1, ms_2, ms_13, ms_14, ms_15, ms_16, ms_21, ms_22, ms_23, ms_24, ms_28, ms_36, ms_37, ms_38, st_at, st_ne, st_st, st_swap, p0, p1, p2, hm, h5, b1, b2, -List.filter_filter, -List.getElem?_map, -List.getD_eq_getElem?_getD]
end RE
