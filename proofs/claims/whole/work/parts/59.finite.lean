/-! the class's graph: areAllFinite, its loops -/
theorem f48_0 : x_fetch q_k48 0 = x_st (x_push 1 (.int (0))) := rfl
theorem t48_0 (C : xF) (s n : Nat) (z : xS) : x_to q_k48 C s (n + 1) 0 z = x_nx q_k48 C s n ((x_st (x_push 1 (.int (0)))) C z) := x_to_at f48_0 C s n z
theorem f48_1 : x_fetch q_k48 1 = x_sti 2 1 := rfl
theorem t48_1 (C : xF) (s n : Nat) (z : xS) : x_to q_k48 C s (n + 1) 1 z = x_nx q_k48 C s n ((x_sti 2 1) C z) := x_to_at f48_1 C s n z
theorem f48_2 : x_fetch q_k48 2 = x_ldi 3 1 := rfl
theorem t48_2 (C : xF) (s n : Nat) (z : xS) : x_to q_k48 C s (n + 1) 2 z = x_nx q_k48 C s n ((x_ldi 3 1) C z) := x_to_at f48_2 C s n z
theorem f48_3 : x_fetch q_k48 3 = x_lda 4 0 := rfl
theorem t48_3 (C : xF) (s n : Nat) (z : xS) : x_to q_k48 C s (n + 1) 3 z = x_nx q_k48 C s n ((x_lda 4 0) C z) := x_to_at f48_3 C s n z
theorem f48_4 : x_fetch q_k48 4 = x_gf 7 5 7 := rfl
theorem t48_4 (C : xF) (s n : Nat) (z : xS) : x_to q_k48 C s (n + 1) 4 z = x_nx q_k48 C s n ((x_gf 7 5 7) C z) := x_to_at f48_4 C s n z
theorem f48_7 : x_fetch q_k48 7 = x_st (x_icge 34 10) := rfl
theorem t48_7 (C : xF) (s n : Nat) (z : xS) : x_to q_k48 C s (n + 1) 7 z = x_nx q_k48 C s n ((x_st (x_icge 34 10)) C z) := x_to_at f48_7 C s n z
theorem f48_10 : x_fetch q_k48 10 = x_lda 11 0 := rfl
theorem t48_10 (C : xF) (s n : Nat) (z : xS) : x_to q_k48 C s (n + 1) 10 z = x_nx q_k48 C s n ((x_lda 11 0) C z) := x_to_at f48_10 C s n z
theorem f48_11 : x_fetch q_k48 11 = x_gf 14 5 2 := rfl
theorem t48_11 (C : xF) (s n : Nat) (z : xS) : x_to q_k48 C s (n + 1) 11 z = x_nx q_k48 C s n ((x_gf 14 5 2) C z) := x_to_at f48_11 C s n z
theorem f48_14 : x_fetch q_k48 14 = x_ldi 15 1 := rfl
theorem t48_14 (C : xF) (s n : Nat) (z : xS) : x_to q_k48 C s (n + 1) 14 z = x_nx q_k48 C s n ((x_ldi 15 1) C z) := x_to_at f48_14 C s n z
theorem f48_15 : x_fetch q_k48 15 = x_lda 16 0 := rfl
theorem t48_15 (C : xF) (s n : Nat) (z : xS) : x_to q_k48 C s (n + 1) 15 z = x_nx q_k48 C s n ((x_lda 16 0) C z) := x_to_at f48_15 C s n z
theorem f48_16 : x_fetch q_k48 16 = x_ldi 17 1 := rfl
theorem t48_16 (C : xF) (s n : Nat) (z : xS) : x_to q_k48 C s (n + 1) 16 z = x_nx q_k48 C s n ((x_ldi 17 1) C z) := x_to_at f48_16 C s n z
theorem f48_17 : x_fetch q_k48 17 = x_cv 20 47 2 5 := rfl
theorem t48_17 (C : xF) (s n : Nat) (z : xS) : x_to q_k48 C s (n + 1) 17 z = x_nx q_k48 C s n ((x_cv 20 47 2 5) C z) := x_to_at f48_17 C s n z
theorem f48_20 : x_fetch q_k48 20 = x_ast 21 0 (fun x => x) := rfl
theorem t48_20 (C : xF) (s n : Nat) (z : xS) : x_to q_k48 C s (n + 1) 20 z = x_nx q_k48 C s n ((x_ast 21 0 (fun x => x)) C z) := x_to_at f48_20 C s n z
theorem f48_21 : x_fetch q_k48 21 = x_lda 22 0 := rfl
theorem t48_21 (C : xF) (s n : Nat) (z : xS) : x_to q_k48 C s (n + 1) 21 z = x_nx q_k48 C s n ((x_lda 22 0) C z) := x_to_at f48_21 C s n z
theorem f48_22 : x_fetch q_k48 22 = x_gf 25 5 4 := rfl
theorem t48_22 (C : xF) (s n : Nat) (z : xS) : x_to q_k48 C s (n + 1) 22 z = x_nx q_k48 C s n ((x_gf 25 5 4) C z) := x_to_at f48_22 C s n z
theorem f48_25 : x_fetch q_k48 25 = x_ldi 26 1 := rfl
theorem t48_25 (C : xF) (s n : Nat) (z : xS) : x_to q_k48 C s (n + 1) 25 z = x_nx q_k48 C s n ((x_ldi 26 1) C z) := x_to_at f48_25 C s n z
theorem f48_26 : x_fetch q_k48 26 = x_st (x_push 27 (.int (0))) := rfl
theorem t48_26 (C : xF) (s n : Nat) (z : xS) : x_to q_k48 C s (n + 1) 26 z = x_nx q_k48 C s n ((x_st (x_push 27 (.int (0)))) C z) := x_to_at f48_26 C s n z
theorem f48_27 : x_fetch q_k48 27 = x_ast 28 1 (fun x => vp_nar .boolean x) := rfl
theorem t48_27 (C : xF) (s n : Nat) (z : xS) : x_to q_k48 C s (n + 1) 27 z = x_nx q_k48 C s n ((x_ast 28 1 (fun x => vp_nar .boolean x)) C z) := x_to_at f48_27 C s n z
theorem f48_28 : x_fetch q_k48 28 = x_iinc 31 1 (1) := rfl
theorem t48_28 (C : xF) (s n : Nat) (z : xS) : x_to q_k48 C s (n + 1) 28 z = x_nx q_k48 C s n ((x_iinc 31 1 (1)) C z) := x_to_at f48_28 C s n z
theorem f48_31 : x_fetch q_k48 31 = x_st (x_goto 2) := rfl
theorem t48_31 (C : xF) (s n : Nat) (z : xS) : x_to q_k48 C s (n + 1) 31 z = x_nx q_k48 C s n ((x_st (x_goto 2)) C z) := x_to_at f48_31 C s n z
theorem f48_34 : x_fetch q_k48 34 = x_st (x_push 35 (.int (1))) := rfl
theorem t48_34 (C : xF) (s n : Nat) (z : xS) : x_to q_k48 C s (n + 1) 34 z = x_nx q_k48 C s n ((x_st (x_push 35 (.int (1)))) C z) := x_to_at f48_34 C s n z
theorem f48_35 : x_fetch q_k48 35 = x_sti 36 1 := rfl
theorem t48_35 (C : xF) (s n : Nat) (z : xS) : x_to q_k48 C s (n + 1) 35 z = x_nx q_k48 C s n ((x_sti 36 1) C z) := x_to_at f48_35 C s n z
theorem f48_36 : x_fetch q_k48 36 = x_st (x_push 37 (.int (0))) := rfl
theorem t48_36 (C : xF) (s n : Nat) (z : xS) : x_to q_k48 C s (n + 1) 36 z = x_nx q_k48 C s n ((x_st (x_push 37 (.int (0)))) C z) := x_to_at f48_36 C s n z
theorem f48_37 : x_fetch q_k48 37 = x_sti 38 2 := rfl
theorem t48_37 (C : xF) (s n : Nat) (z : xS) : x_to q_k48 C s (n + 1) 37 z = x_nx q_k48 C s n ((x_sti 38 2) C z) := x_to_at f48_37 C s n z
theorem f48_38 : x_fetch q_k48 38 = x_st (x_push 39 (.int (0))) := rfl
theorem t48_38 (C : xF) (s n : Nat) (z : xS) : x_to q_k48 C s (n + 1) 38 z = x_nx q_k48 C s n ((x_st (x_push 39 (.int (0)))) C z) := x_to_at f48_38 C s n z
theorem f48_39 : x_fetch q_k48 39 = x_sti 40 3 := rfl
theorem t48_39 (C : xF) (s n : Nat) (z : xS) : x_to q_k48 C s (n + 1) 39 z = x_nx q_k48 C s n ((x_sti 40 3) C z) := x_to_at f48_39 C s n z
theorem f48_40 : x_fetch q_k48 40 = x_ldi 41 3 := rfl
theorem t48_40 (C : xF) (s n : Nat) (z : xS) : x_to q_k48 C s (n + 1) 40 z = x_nx q_k48 C s n ((x_ldi 41 3) C z) := x_to_at f48_40 C s n z
theorem f48_41 : x_fetch q_k48 41 = x_st (x_push 43 (.int (80))) := rfl
theorem t48_41 (C : xF) (s n : Nat) (z : xS) : x_to q_k48 C s (n + 1) 41 z = x_nx q_k48 C s n ((x_st (x_push 43 (.int (80)))) C z) := x_to_at f48_41 C s n z
theorem f48_43 : x_fetch q_k48 43 = x_st (x_icgt 158 46) := rfl
theorem t48_43 (C : xF) (s n : Nat) (z : xS) : x_to q_k48 C s (n + 1) 43 z = x_nx q_k48 C s n ((x_st (x_icgt 158 46)) C z) := x_to_at f48_43 C s n z
theorem f48_46 : x_fetch q_k48 46 = x_ldi 47 1 := rfl
theorem t48_46 (C : xF) (s n : Nat) (z : xS) : x_to q_k48 C s (n + 1) 46 z = x_nx q_k48 C s n ((x_ldi 47 1) C z) := x_to_at f48_46 C s n z
theorem f48_47 : x_fetch q_k48 47 = x_st (x_ifeq 158 50) := rfl
theorem t48_47 (C : xF) (s n : Nat) (z : xS) : x_to q_k48 C s (n + 1) 47 z = x_nx q_k48 C s n ((x_st (x_ifeq 158 50)) C z) := x_to_at f48_47 C s n z
theorem f48_50 : x_fetch q_k48 50 = x_ldi 51 2 := rfl
theorem t48_50 (C : xF) (s n : Nat) (z : xS) : x_to q_k48 C s (n + 1) 50 z = x_nx q_k48 C s n ((x_ldi 51 2) C z) := x_to_at f48_50 C s n z
theorem f48_51 : x_fetch q_k48 51 = x_st (x_ifne 158 54) := rfl
theorem t48_51 (C : xF) (s n : Nat) (z : xS) : x_to q_k48 C s (n + 1) 51 z = x_nx q_k48 C s n ((x_st (x_ifne 158 54)) C z) := x_to_at f48_51 C s n z
theorem f48_54 : x_fetch q_k48 54 = x_st (x_push 55 (.int (0))) := rfl
theorem t48_54 (C : xF) (s n : Nat) (z : xS) : x_to q_k48 C s (n + 1) 54 z = x_nx q_k48 C s n ((x_st (x_push 55 (.int (0)))) C z) := x_to_at f48_54 C s n z
theorem f48_55 : x_fetch q_k48 55 = x_sti 56 1 := rfl
theorem t48_55 (C : xF) (s n : Nat) (z : xS) : x_to q_k48 C s (n + 1) 55 z = x_nx q_k48 C s n ((x_sti 56 1) C z) := x_to_at f48_55 C s n z
theorem f48_56 : x_fetch q_k48 56 = x_st (x_push 57 (.int (1))) := rfl
theorem t48_56 (C : xF) (s n : Nat) (z : xS) : x_to q_k48 C s (n + 1) 56 z = x_nx q_k48 C s n ((x_st (x_push 57 (.int (1)))) C z) := x_to_at f48_56 C s n z
theorem f48_57 : x_fetch q_k48 57 = x_sti 58 2 := rfl
theorem t48_57 (C : xF) (s n : Nat) (z : xS) : x_to q_k48 C s (n + 1) 57 z = x_nx q_k48 C s n ((x_sti 58 2) C z) := x_to_at f48_57 C s n z
theorem f48_58 : x_fetch q_k48 58 = x_lda 59 0 := rfl
theorem t48_58 (C : xF) (s n : Nat) (z : xS) : x_to q_k48 C s (n + 1) 58 z = x_nx q_k48 C s n ((x_lda 59 0) C z) := x_to_at f48_58 C s n z
theorem f48_59 : x_fetch q_k48 59 = x_gf 62 5 7 := rfl
theorem t48_59 (C : xF) (s n : Nat) (z : xS) : x_to q_k48 C s (n + 1) 59 z = x_nx q_k48 C s n ((x_gf 62 5 7) C z) := x_to_at f48_59 C s n z
theorem f48_62 : x_fetch q_k48 62 = x_st (x_push 63 (.int (1))) := rfl
theorem t48_62 (C : xF) (s n : Nat) (z : xS) : x_to q_k48 C s (n + 1) 62 z = x_nx q_k48 C s n ((x_st (x_push 63 (.int (1)))) C z) := x_to_at f48_62 C s n z
theorem f48_63 : x_fetch q_k48 63 = x_st (x_bin 64 (fun a b => a - b)) := rfl
theorem t48_63 (C : xF) (s n : Nat) (z : xS) : x_to q_k48 C s (n + 1) 63 z = x_nx q_k48 C s n ((x_st (x_bin 64 (fun a b => a - b))) C z) := x_to_at f48_63 C s n z
theorem f48_64 : x_fetch q_k48 64 = x_sti 66 4 := rfl
theorem t48_64 (C : xF) (s n : Nat) (z : xS) : x_to q_k48 C s (n + 1) 64 z = x_nx q_k48 C s n ((x_sti 66 4) C z) := x_to_at f48_64 C s n z
theorem f48_66 : x_fetch q_k48 66 = x_ldi 68 4 := rfl
theorem t48_66 (C : xF) (s n : Nat) (z : xS) : x_to q_k48 C s (n + 1) 66 z = x_nx q_k48 C s n ((x_ldi 68 4) C z) := x_to_at f48_66 C s n z
theorem f48_68 : x_fetch q_k48 68 = x_st (x_iflt 152 71) := rfl
theorem t48_68 (C : xF) (s n : Nat) (z : xS) : x_to q_k48 C s (n + 1) 68 z = x_nx q_k48 C s n ((x_st (x_iflt 152 71)) C z) := x_to_at f48_68 C s n z
theorem f48_71 : x_fetch q_k48 71 = x_lda 72 0 := rfl
theorem t48_71 (C : xF) (s n : Nat) (z : xS) : x_to q_k48 C s (n + 1) 71 z = x_nx q_k48 C s n ((x_lda 72 0) C z) := x_to_at f48_71 C s n z
theorem f48_72 : x_fetch q_k48 72 = x_gf 75 5 2 := rfl
theorem t48_72 (C : xF) (s n : Nat) (z : xS) : x_to q_k48 C s (n + 1) 72 z = x_nx q_k48 C s n ((x_gf 75 5 2) C z) := x_to_at f48_72 C s n z
theorem f48_75 : x_fetch q_k48 75 = x_ldi 77 4 := rfl
theorem t48_75 (C : xF) (s n : Nat) (z : xS) : x_to q_k48 C s (n + 1) 75 z = x_nx q_k48 C s n ((x_ldi 77 4) C z) := x_to_at f48_75 C s n z
theorem f48_77 : x_fetch q_k48 77 = x_ald 78 0 := rfl
theorem t48_77 (C : xF) (s n : Nat) (z : xS) : x_to q_k48 C s (n + 1) 77 z = x_nx q_k48 C s n ((x_ald 78 0) C z) := x_to_at f48_77 C s n z
theorem f48_78 : x_fetch q_k48 78 = x_ldi 80 4 := rfl
theorem t48_78 (C : xF) (s n : Nat) (z : xS) : x_to q_k48 C s (n + 1) 78 z = x_nx q_k48 C s n ((x_ldi 80 4) C z) := x_to_at f48_78 C s n z
theorem f48_80 : x_fetch q_k48 80 = x_st (x_icne 146 83) := rfl
theorem t48_80 (C : xF) (s n : Nat) (z : xS) : x_to q_k48 C s (n + 1) 80 z = x_nx q_k48 C s n ((x_st (x_icne 146 83)) C z) := x_to_at f48_80 C s n z
theorem f48_83 : x_fetch q_k48 83 = x_lda 84 0 := rfl
theorem t48_83 (C : xF) (s n : Nat) (z : xS) : x_to q_k48 C s (n + 1) 83 z = x_nx q_k48 C s n ((x_lda 84 0) C z) := x_to_at f48_83 C s n z
theorem f48_84 : x_fetch q_k48 84 = x_gf 87 5 4 := rfl
theorem t48_84 (C : xF) (s n : Nat) (z : xS) : x_to q_k48 C s (n + 1) 84 z = x_nx q_k48 C s n ((x_gf 87 5 4) C z) := x_to_at f48_84 C s n z
theorem f48_87 : x_fetch q_k48 87 = x_ldi 89 4 := rfl
theorem t48_87 (C : xF) (s n : Nat) (z : xS) : x_to q_k48 C s (n + 1) 87 z = x_nx q_k48 C s n ((x_ldi 89 4) C z) := x_to_at f48_87 C s n z
theorem f48_89 : x_fetch q_k48 89 = x_ald 90 1 := rfl
theorem t48_89 (C : xF) (s n : Nat) (z : xS) : x_to q_k48 C s (n + 1) 89 z = x_nx q_k48 C s n ((x_ald 90 1) C z) := x_to_at f48_89 C s n z
theorem f48_90 : x_fetch q_k48 90 = x_st (x_ifne 146 93) := rfl
theorem t48_90 (C : xF) (s n : Nat) (z : xS) : x_to q_k48 C s (n + 1) 90 z = x_nx q_k48 C s n ((x_st (x_ifne 146 93)) C z) := x_to_at f48_90 C s n z
theorem f48_93 : x_fetch q_k48 93 = x_lda 94 0 := rfl
theorem t48_93 (C : xF) (s n : Nat) (z : xS) : x_to q_k48 C s (n + 1) 93 z = x_nx q_k48 C s n ((x_lda 94 0) C z) := x_to_at f48_93 C s n z
theorem f48_94 : x_fetch q_k48 94 = x_gf 97 5 4 := rfl
theorem t48_94 (C : xF) (s n : Nat) (z : xS) : x_to q_k48 C s (n + 1) 94 z = x_nx q_k48 C s n ((x_gf 97 5 4) C z) := x_to_at f48_94 C s n z
theorem f48_97 : x_fetch q_k48 97 = x_ldi 99 4 := rfl
theorem t48_97 (C : xF) (s n : Nat) (z : xS) : x_to q_k48 C s (n + 1) 97 z = x_nx q_k48 C s n ((x_ldi 99 4) C z) := x_to_at f48_97 C s n z
theorem f48_99 : x_fetch q_k48 99 = x_lda 100 0 := rfl
theorem t48_99 (C : xF) (s n : Nat) (z : xS) : x_to q_k48 C s (n + 1) 99 z = x_nx q_k48 C s n ((x_lda 100 0) C z) := x_to_at f48_99 C s n z
theorem f48_100 : x_fetch q_k48 100 = x_ldi 102 4 := rfl
theorem t48_100 (C : xF) (s n : Nat) (z : xS) : x_to q_k48 C s (n + 1) 100 z = x_nx q_k48 C s n ((x_ldi 102 4) C z) := x_to_at f48_100 C s n z
theorem f48_102 : x_fetch q_k48 102 = x_cv 105 49 2 5 := rfl
theorem t48_102 (C : xF) (s n : Nat) (z : xS) : x_to q_k48 C s (n + 1) 102 z = x_nx q_k48 C s n ((x_cv 105 49 2 5) C z) := x_to_at f48_102 C s n z
theorem f48_105 : x_fetch q_k48 105 = x_ast 106 1 (fun x => vp_nar .boolean x) := rfl
theorem t48_105 (C : xF) (s n : Nat) (z : xS) : x_to q_k48 C s (n + 1) 105 z = x_nx q_k48 C s n ((x_ast 106 1 (fun x => vp_nar .boolean x)) C z) := x_to_at f48_105 C s n z
theorem f48_106 : x_fetch q_k48 106 = x_ldi 107 1 := rfl
theorem t48_106 (C : xF) (s n : Nat) (z : xS) : x_to q_k48 C s (n + 1) 106 z = x_nx q_k48 C s n ((x_ldi 107 1) C z) := x_to_at f48_106 C s n z
theorem f48_107 : x_fetch q_k48 107 = x_st (x_ifne 120 110) := rfl
theorem t48_107 (C : xF) (s n : Nat) (z : xS) : x_to q_k48 C s (n + 1) 107 z = x_nx q_k48 C s n ((x_st (x_ifne 120 110)) C z) := x_to_at f48_107 C s n z
theorem f48_110 : x_fetch q_k48 110 = x_lda 111 0 := rfl
theorem t48_110 (C : xF) (s n : Nat) (z : xS) : x_to q_k48 C s (n + 1) 110 z = x_nx q_k48 C s n ((x_lda 111 0) C z) := x_to_at f48_110 C s n z
theorem f48_111 : x_fetch q_k48 111 = x_gf 114 5 4 := rfl
theorem t48_111 (C : xF) (s n : Nat) (z : xS) : x_to q_k48 C s (n + 1) 111 z = x_nx q_k48 C s n ((x_gf 114 5 4) C z) := x_to_at f48_111 C s n z
theorem f48_114 : x_fetch q_k48 114 = x_ldi 116 4 := rfl
theorem t48_114 (C : xF) (s n : Nat) (z : xS) : x_to q_k48 C s (n + 1) 114 z = x_nx q_k48 C s n ((x_ldi 116 4) C z) := x_to_at f48_114 C s n z
theorem f48_116 : x_fetch q_k48 116 = x_ald 117 1 := rfl
theorem t48_116 (C : xF) (s n : Nat) (z : xS) : x_to q_k48 C s (n + 1) 116 z = x_nx q_k48 C s n ((x_ald 117 1) C z) := x_to_at f48_116 C s n z
theorem f48_117 : x_fetch q_k48 117 = x_st (x_ifeq 124 120) := rfl
theorem t48_117 (C : xF) (s n : Nat) (z : xS) : x_to q_k48 C s (n + 1) 117 z = x_nx q_k48 C s n ((x_st (x_ifeq 124 120)) C z) := x_to_at f48_117 C s n z
theorem f48_120 : x_fetch q_k48 120 = x_st (x_push 121 (.int (1))) := rfl
theorem t48_120 (C : xF) (s n : Nat) (z : xS) : x_to q_k48 C s (n + 1) 120 z = x_nx q_k48 C s n ((x_st (x_push 121 (.int (1)))) C z) := x_to_at f48_120 C s n z
theorem f48_121 : x_fetch q_k48 121 = x_st (x_goto 125) := rfl
theorem t48_121 (C : xF) (s n : Nat) (z : xS) : x_to q_k48 C s (n + 1) 121 z = x_nx q_k48 C s n ((x_st (x_goto 125)) C z) := x_to_at f48_121 C s n z
theorem f48_124 : x_fetch q_k48 124 = x_st (x_push 125 (.int (0))) := rfl
theorem t48_124 (C : xF) (s n : Nat) (z : xS) : x_to q_k48 C s (n + 1) 124 z = x_nx q_k48 C s n ((x_st (x_push 125 (.int (0)))) C z) := x_to_at f48_124 C s n z
theorem f48_125 : x_fetch q_k48 125 = x_sti 126 1 := rfl
theorem t48_125 (C : xF) (s n : Nat) (z : xS) : x_to q_k48 C s (n + 1) 125 z = x_nx q_k48 C s n ((x_sti 126 1) C z) := x_to_at f48_125 C s n z
theorem f48_126 : x_fetch q_k48 126 = x_ldi 127 2 := rfl
theorem t48_126 (C : xF) (s n : Nat) (z : xS) : x_to q_k48 C s (n + 1) 126 z = x_nx q_k48 C s n ((x_ldi 127 2) C z) := x_to_at f48_126 C s n z
theorem f48_127 : x_fetch q_k48 127 = x_st (x_ifeq 144 130) := rfl
theorem t48_127 (C : xF) (s n : Nat) (z : xS) : x_to q_k48 C s (n + 1) 127 z = x_nx q_k48 C s n ((x_st (x_ifeq 144 130)) C z) := x_to_at f48_127 C s n z
theorem f48_130 : x_fetch q_k48 130 = x_lda 131 0 := rfl
theorem t48_130 (C : xF) (s n : Nat) (z : xS) : x_to q_k48 C s (n + 1) 130 z = x_nx q_k48 C s n ((x_lda 131 0) C z) := x_to_at f48_130 C s n z
theorem f48_131 : x_fetch q_k48 131 = x_gf 134 5 4 := rfl
theorem t48_131 (C : xF) (s n : Nat) (z : xS) : x_to q_k48 C s (n + 1) 131 z = x_nx q_k48 C s n ((x_gf 134 5 4) C z) := x_to_at f48_131 C s n z
theorem f48_134 : x_fetch q_k48 134 = x_ldi 136 4 := rfl
theorem t48_134 (C : xF) (s n : Nat) (z : xS) : x_to q_k48 C s (n + 1) 134 z = x_nx q_k48 C s n ((x_ldi 136 4) C z) := x_to_at f48_134 C s n z
theorem f48_136 : x_fetch q_k48 136 = x_ald 137 1 := rfl
theorem t48_136 (C : xF) (s n : Nat) (z : xS) : x_to q_k48 C s (n + 1) 136 z = x_nx q_k48 C s n ((x_ald 137 1) C z) := x_to_at f48_136 C s n z
theorem f48_137 : x_fetch q_k48 137 = x_st (x_ifeq 144 140) := rfl
theorem t48_137 (C : xF) (s n : Nat) (z : xS) : x_to q_k48 C s (n + 1) 137 z = x_nx q_k48 C s n ((x_st (x_ifeq 144 140)) C z) := x_to_at f48_137 C s n z
theorem f48_140 : x_fetch q_k48 140 = x_st (x_push 141 (.int (1))) := rfl
theorem t48_140 (C : xF) (s n : Nat) (z : xS) : x_to q_k48 C s (n + 1) 140 z = x_nx q_k48 C s n ((x_st (x_push 141 (.int (1)))) C z) := x_to_at f48_140 C s n z
theorem f48_141 : x_fetch q_k48 141 = x_st (x_goto 145) := rfl
theorem t48_141 (C : xF) (s n : Nat) (z : xS) : x_to q_k48 C s (n + 1) 141 z = x_nx q_k48 C s n ((x_st (x_goto 145)) C z) := x_to_at f48_141 C s n z
theorem f48_144 : x_fetch q_k48 144 = x_st (x_push 145 (.int (0))) := rfl
theorem t48_144 (C : xF) (s n : Nat) (z : xS) : x_to q_k48 C s (n + 1) 144 z = x_nx q_k48 C s n ((x_st (x_push 145 (.int (0)))) C z) := x_to_at f48_144 C s n z
theorem f48_145 : x_fetch q_k48 145 = x_sti 146 2 := rfl
theorem t48_145 (C : xF) (s n : Nat) (z : xS) : x_to q_k48 C s (n + 1) 145 z = x_nx q_k48 C s n ((x_sti 146 2) C z) := x_to_at f48_145 C s n z
theorem f48_146 : x_fetch q_k48 146 = x_iinc 149 4 (-1) := rfl
theorem t48_146 (C : xF) (s n : Nat) (z : xS) : x_to q_k48 C s (n + 1) 146 z = x_nx q_k48 C s n ((x_iinc 149 4 (-1)) C z) := x_to_at f48_146 C s n z
theorem f48_149 : x_fetch q_k48 149 = x_st (x_goto 66) := rfl
theorem t48_149 (C : xF) (s n : Nat) (z : xS) : x_to q_k48 C s (n + 1) 149 z = x_nx q_k48 C s n ((x_st (x_goto 66)) C z) := x_to_at f48_149 C s n z
theorem f48_152 : x_fetch q_k48 152 = x_iinc 155 3 (1) := rfl
theorem t48_152 (C : xF) (s n : Nat) (z : xS) : x_to q_k48 C s (n + 1) 152 z = x_nx q_k48 C s n ((x_iinc 155 3 (1)) C z) := x_to_at f48_152 C s n z
theorem f48_155 : x_fetch q_k48 155 = x_st (x_goto 40) := rfl
theorem t48_155 (C : xF) (s n : Nat) (z : xS) : x_to q_k48 C s (n + 1) 155 z = x_nx q_k48 C s n ((x_st (x_goto 40)) C z) := x_to_at f48_155 C s n z
theorem f48_158 : x_fetch q_k48 158 = x_ldi 159 2 := rfl
theorem t48_158 (C : xF) (s n : Nat) (z : xS) : x_to q_k48 C s (n + 1) 158 z = x_nx q_k48 C s n ((x_ldi 159 2) C z) := x_to_at f48_158 C s n z
theorem f48_159 : x_fetch q_k48 159 = x_ri (.boolean) := rfl
theorem t48_159 (C : xF) (s n : Nat) (z : xS) : x_to q_k48 C s (n + 1) 159 z = x_nx q_k48 C s n ((x_ri (.boolean)) C z) := x_to_at f48_159 C s n z
theorem sZ_same {S : List Int} {a v : Int} (h : gZ S a = v) (h0 : 0 ≤ a) (h1 : a < S.length) : sZ S a v = S := by
  unfold sZ
  unfold gZ at h
  rw [List.getD_eq_getElem?_getD, List.getElem?_eq_getElem (by omega)] at h
  have h' : S[a.toNat] = v := h
  rw [← h']
  exact List.set_getElem_self (by omega)
section AF
variable {w : Nat → xC} {N : Nat} {l wt : Int} {Sy Ee Ro0 P : List Int}
def aH (w : Nat → xC) (N : Nat) (Ro Fi : List Int) : xH := hp (uH (uH w 19 (cI 0 Ro)) 21 (cI 1 Fi)) N
theorem l48_2 (d : Nat) (hN : 53 ≤ N) (hg : w 16 = gO l wt) (v1 : (P.length : Int) = l) (v2 : l ≤ 80) {dm : Nat → Nat} (h1 : ∀ i, i < P.length → rF Ro0 i < P.length) (h2 : ∀ i, i < P.length → rF Ro0 i ≠ i → dm (rF Ro0 i) < dm i) : ∀ (r : Nat) (k : Int) (Ro Fi : List Int) (lv : xL), Ro.length = 80 → Fi.length = 80 → (∀ i, 0 ≤ i → i < 80 → 0 ≤ gZ Ro i ∧ gZ Ro i < 80) → (∀ i, gZ Fi i = 0 ∨ gZ Fi i = 1) → k + r = l → 0 ≤ k → (∀ i : Nat, i < P.length → ((i : Int) < k → gZ Ro i = fdn (rF Ro0) 80 i ∧ gZ Fi i = 0) ∧ (k ≤ (i : Int) → gZ Ro i = gZ Ro0 i)) → c1 lv → x_lk lv 0 = some (.ref 19) → x_lk lv 1 = some (.int (iZ k)) →
    ∃ (Ro' Fi' : List Int) (lv' : xL), Ro'.length = 80 ∧ Fi'.length = 80 ∧ (∀ i, 0 ≤ i → i < 80 → 0 ≤ gZ Ro' i ∧ gZ Ro' i < 80) ∧ (∀ i, gZ Fi' i = 0 ∨ gZ Fi' i = 1) ∧ (∀ i : Nat, i < P.length → gZ Ro' i = fdn (rF Ro0) 80 i ∧ gZ Fi' i = 0) ∧ c1 lv' ∧ x_lk lv' 0 = some (.ref 19) ∧ ∀ res, Gx q_k48 (d + 1) 34 (lv', [], aH w N Ro' Fi') res → Gx q_k48 (d + 1) 2 (lv, [], aH w N Ro Fi) res := by
  intro r
  induction r with
  | zero =>
    intro k Ro Fi lv s0 s1 hr hf hk k0 hi hc l0 l1
    refine ⟨Ro, Fi, lv, s0, s1, hr, hf, fun i h => (hi i h).1 (by omega), hc, l0, fun res k3 => Gx.run 20 Cs.tt (fun C _ => ?_) k3⟩
    have b1 : l ≤ k := by omega
    simp (disch := first | (refine c1_id ?_; assumption) | (refine c1_st rfl ?_; repeat (first | assumption | refine c1_st rfl ?_)) | omega) [nx_l, nx_r, nx_n, x_st, x_push, x_bin, x_div, x_un, x_dup, x_pop, x_dup2, x_goto, x_ifeq, x_ifne, x_iflt, x_ifge, x_ifgt, x_ifle, x_iceq, x_icne, x_iclt, x_icge, x_icgt, x_icle, x_ifnull, x_ifnonnull, x_ldi, x_lda, x_sti, x_sta, x_iinc, x_gf, x_pf, x_ald, x_ast, x_aln, x_len, x_cl_, x_cv, x_cs, x_rc, x_r0, x_isT, x_oi, x_rv, x_ri, x_ra, Value.category, t48_0, t48_1, t48_2, t48_3, t48_4, t48_7, t48_10, t48_11, t48_14, t48_15, t48_16, t48_17, t48_20, t48_21, t48_22, t48_25, t48_26, t48_27, t48_28, t48_31, t48_34, t48_35, t48_36, t48_37, t48_38, t48_39, t48_40, t48_41, t48_43, t48_46, t48_47, t48_50, t48_51, t48_54, t48_55, t48_56, t48_57, t48_58, t48_59, t48_62, t48_63, t48_64, t48_66, t48_68, t48_71, t48_72, t48_75, t48_77, t48_78, t48_80, t48_83, t48_84, t48_87, t48_89, t48_90, t48_93, t48_94, t48_97, t48_99, t48_100, t48_102, t48_105, t48_106, t48_107, t48_110, t48_111, t48_114, t48_116, t48_117, t48_120, t48_121, t48_124, t48_125, t48_126, t48_127, t48_130, t48_131, t48_134, t48_136, t48_137, t48_140, t48_141, t48_144, t48_145, t48_146, t48_149, t48_152, t48_155, t48_158, t48_159, lk_s, hp_get, hp_set, uH_at, uH_ne, uH_upd, uH_swap, iZ_add, iZ_sub, iZ_mul, iZ_neg, iZ_lt, iZ_le, iZ_eq, iZ_div, iZ_of, ix_Z, gZ_map, gZ_mapI, gZ_map', le_0, le_s, sZ_map, sZ_len, bZ_0, bZ_inj, bZ_t, bZ_f, nr_i, nr_0, nr_1, nr_b, ft_i, ft_b, ft_0, ft_1, zl_0, zl_1, zl_80, aH, l0, l1, hg, b1, gF_len, gg_0, gg_1, gg_2, gg_3, gg_4, gg_5, gg_6, gg_7, gg_8, -List.filter_filter, -List.getElem?_map, -List.getD_eq_getElem?_getD]
  | succ r ih =>
    intro k Ro Fi lv s0 s1 hr hf hk k0 hi hc l0 l1
    have ek : ((k.toNat : Nat) : Int) = k := by omega
    have hsh := fdn_short (n := P.length) (R := rF Ro0) (R' := rF Ro) (k := 80) (by omega) h1 h2 (fun i h => by
      by_cases hik : (i : Int) < k
      · right
        unfold rF at *
        rw [((hi i h).1 hik).1, Int.toNat_natCast]
      · left
        unfold rF
        rw [(hi i h).2 (by omega)]) k.toNat (by omega)
    have hfl := fdn_lt h1 80 k.toNat (by omega)
    have mm := m47 d (w := uH (uH w 19 (cI 0 Ro)) 21 (cI 1 Fi)) (N := N) (l := l) (wt := wt) (Ro := Ro) hN (by rw [uH_ne (by omega), uH_ne (by omega)]; exact hg) (by rw [uH_ne (by omega), uH_at]) s0 hr k k0 (by omega)
    have eR : (fun i : Nat => (gZ Ro (i : Int)).toNat) = rF Ro := rfl
    rw [eR, hsh] at mm
    have C1 := c1_st (i := 1) (v := .int (iZ (k + 1))) rfl hc
    have n1 : ∀ i, 0 ≤ i → i < 80 → 0 ≤ gZ (sZ Ro k (fdn (rF Ro0) 80 k.toNat)) i ∧ gZ (sZ Ro k (fdn (rF Ro0) 80 k.toNat)) i < 80 := fun i i0 i1 => by
      rw [gZ_sZ k0 (by omega) i0]
      split
      · omega
      · exact hr i i0 i1
    have n2 : ∀ i, gZ (sZ Fi k 0) i = 0 ∨ gZ (sZ Fi k 0) i = 1 := fun i => by
      by_cases i0 : 0 ≤ i
      · rw [gZ_sZ k0 (by omega) i0]
        split
        · exact Or.inl rfl
        · exact hf i
      · have e0 : gZ (sZ Fi k 0) i = gZ (sZ Fi k 0) 0 := by
          unfold gZ
          rw [show i.toNat = 0 by omega]
          rfl
        rw [e0, gZ_sZ k0 (by omega) (by omega)]
        split
        · exact Or.inl rfl
        · exact hf 0
    have n3 : ∀ i : Nat, i < P.length → ((i : Int) < k + 1 → gZ (sZ Ro k (fdn (rF Ro0) 80 k.toNat)) i = fdn (rF Ro0) 80 i ∧ gZ (sZ Fi k 0) i = 0) ∧ (k + 1 ≤ (i : Int) → gZ (sZ Ro k (fdn (rF Ro0) 80 k.toNat)) i = gZ Ro0 i) := fun i h => by
      rw [gZ_sZ k0 (by omega) (by omega), gZ_sZ k0 (by omega) (by omega)]
      refine ⟨fun h9 => ?_, fun h9 => ?_⟩
      · by_cases e : k = (i : Int)
        · rw [if_pos e, if_pos e, show k.toNat = i by omega]
          exact ⟨rfl, rfl⟩
        · rw [if_neg e, if_neg e]
          exact (hi i h).1 (by omega)
      · rw [if_neg (by omega)]
        exact (hi i h).2 (by omega)
    obtain ⟨Ro', Fi', lv', q1, q2, q3, q4, q5, q6, q7, q8⟩ := ih (k + 1) (sZ Ro k (fdn (rF Ro0) 80 k.toNat)) (sZ Fi k 0) _ (by rw [sZ_len]; exact s0) (by rw [sZ_len]; exact s1) n1 n2 (by omega) (by omega) n3 C1 (by rw [lk_s hc]; exact l0) (by rw [lk_s hc]; rfl)
    refine ⟨Ro', Fi', lv', q1, q2, q3, q4, q5, q6, q7, fun res k3 => Gx.run 60 mm (fun C mm => ?_) (q8 res k3)⟩
    have b1 : ¬ l ≤ k := by omega
    have q : vp_nar .boolean (iZ 0) = iZ 0 := by decide
    simp (disch := first | (refine c1_id ?_; assumption) | (refine c1_st rfl ?_; repeat (first | assumption | refine c1_st rfl ?_)) | omega) [nx_l, nx_r, nx_n, x_st, x_push, x_bin, x_div, x_un, x_dup, x_pop, x_dup2, x_goto, x_ifeq, x_ifne, x_iflt, x_ifge, x_ifgt, x_ifle, x_iceq, x_icne, x_iclt, x_icge, x_icgt, x_icle, x_ifnull, x_ifnonnull, x_ldi, x_lda, x_sti, x_sta, x_iinc, x_gf, x_pf, x_ald, x_ast, x_aln, x_len, x_cl_, x_cv, x_cs, x_rc, x_r0, x_isT, x_oi, x_rv, x_ri, x_ra, Value.category, t48_0, t48_1, t48_2, t48_3, t48_4, t48_7, t48_10, t48_11, t48_14, t48_15, t48_16, t48_17, t48_20, t48_21, t48_22, t48_25, t48_26, t48_27, t48_28, t48_31, t48_34, t48_35, t48_36, t48_37, t48_38, t48_39, t48_40, t48_41, t48_43, t48_46, t48_47, t48_50, t48_51, t48_54, t48_55, t48_56, t48_57, t48_58, t48_59, t48_62, t48_63, t48_64, t48_66, t48_68, t48_71, t48_72, t48_75, t48_77, t48_78, t48_80, t48_83, t48_84, t48_87, t48_89, t48_90, t48_93, t48_94, t48_97, t48_99, t48_100, t48_102, t48_105, t48_106, t48_107, t48_110, t48_111, t48_114, t48_116, t48_117, t48_120, t48_121, t48_124, t48_125, t48_126, t48_127, t48_130, t48_131, t48_134, t48_136, t48_137, t48_140, t48_141, t48_144, t48_145, t48_146, t48_149, t48_152, t48_155, t48_158, t48_159, lk_s, hp_get, hp_set, uH_at, uH_ne, uH_upd, uH_swap, iZ_add, iZ_sub, iZ_mul, iZ_neg, iZ_lt, iZ_le, iZ_eq, iZ_div, iZ_of, ix_Z, gZ_map, gZ_mapI, gZ_map', le_0, le_s, sZ_map, sZ_len, bZ_0, bZ_inj, bZ_t, bZ_f, nr_i, nr_0, nr_1, nr_b, ft_i, ft_b, ft_0, ft_1, zl_0, zl_1, zl_80, aH, l0, l1, hg, b1, mm, q, gF_len, gg_0, gg_1, gg_2, gg_3, gg_4, gg_5, gg_6, gg_7, gg_8, -List.filter_filter, -List.getElem?_map, -List.getD_eq_getElem?_getD]
end AF
/-- what is marked is finite, with a rank -/
def FI (P : List Int) (fd : Nat → Nat) (Fi : List Int) : Prop := Fi.length = 80 ∧ (∀ i, gZ Fi i = 0 ∨ gZ Fi i = 1) ∧ (∀ i : Nat, i < P.length → gZ Fi i = 1 → fd i = i) ∧ ∃ (rk : Nat → Nat) (B : Nat), ∀ r : Nat, r < P.length → gZ Fi r = 1 → rk r < B ∧ ∀ x ∈ args P r, gZ Fi (fd x) = 1 ∧ rk (fd x) < rk r
def allF (P : List Int) (fd : Nat → Nat) (Fi : List Int) (r : Nat) : Bool := (args P r).all (fun x => decide (gZ Fi (fd x : Nat) = 1))
theorem FI.mark {P : List Int} {fd : Nat → Nat} {Fi : List Int} (hP : P.length ≤ 80) (hlt : ∀ i, i < P.length → fd i < P.length) (hT : ∀ i, i < P.length → Ts 1 (tm P i)) (h : FI P fd Fi) {r : Nat} (hr : r < P.length) (hf : fd r = r) (h0 : gZ Fi r = 0) (ha : allF P fd Fi r = true) : FI P fd (sZ Fi r 1) := by
  obtain ⟨f1, f2, f3, rk, B, f4⟩ := h
  have hall : ∀ x ∈ args P r, gZ Fi (fd x) = 1 := fun x hx => of_decide_eq_true (List.all_eq_true.mp ha x hx)
  have g : ∀ i : Nat, gZ (sZ Fi r 1) i = if r = i then 1 else gZ Fi i := fun i => by
    rw [gZ_sZ (by omega) (by omega) (by omega)]
    by_cases e : (r : Int) = i
    · rw [if_pos e, if_pos (by omega)]
    · rw [if_neg e, if_neg (by omega)]
  refine ⟨by rw [sZ_len]; exact f1, fun i => ?_, fun i hi h9 => ?_, fun j => if j = r then B else rk j, B + 1, fun j hj h9 => ?_⟩
  · by_cases i0 : 0 ≤ i
    · have := g i.toNat
      rw [show ((i.toNat : Nat) : Int) = i by omega] at this
      rw [this]
      split
      · exact Or.inr rfl
      · exact f2 i
    · have e0 : gZ (sZ Fi r 1) i = gZ (sZ Fi r 1) ((0 : Nat) : Int) := by
        unfold gZ
        rw [show i.toNat = 0 by omega]
        rfl
      rw [e0, g]
      split
      · exact Or.inr rfl
      · exact f2 _
  · rw [g] at h9
    split at h9
    · next e => rw [← e]; exact hf
    · exact f3 i hi h9
  · rw [g] at h9
    by_cases e : r = j
    · subst e
      dsimp only
      rw [if_pos rfl]
      refine ⟨by omega, fun x hx => ?_⟩
      have h1 := hall x hx
      have hx2 := (args_ok hr (hT r hr)).2 x hx
      have hne : fd x ≠ r := fun e => by
        rw [e, h0] at h1
        omega
      rw [g, if_neg (Ne.symm hne), if_neg hne]
      exact ⟨h1, (f4 _ (hlt x hx2.2.1) h1).1⟩
    · rw [if_neg e] at h9
      obtain ⟨k1, k2⟩ := f4 j hj h9
      dsimp only
      rw [if_neg (Ne.symm e)]
      refine ⟨by omega, fun x hx => ?_⟩
      obtain ⟨m1, m2⟩ := k2 x hx
      have hne : fd x ≠ r := fun e => by
        rw [e, h0] at m1
        omega
      rw [g, if_neg (Ne.symm hne), if_neg hne]
      exact ⟨m1, m2⟩
