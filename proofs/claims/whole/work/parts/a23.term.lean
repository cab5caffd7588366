/-! the class: a term is read -/
theorem f33_0 : x_fetch q_k33 0 = x_ldi 1 2 := rfl
theorem t33_0 (C : xF) (s n : Nat) (z : xS) : x_to q_k33 C s (n + 1) 0 z = x_nx q_k33 C s n ((x_ldi 1 2) C z) := x_to_at f33_0 C s n z
theorem f33_1 : x_fetch q_k33 1 = x_st (x_push 3 (.int (30))) := rfl
theorem t33_1 (C : xF) (s n : Nat) (z : xS) : x_to q_k33 C s (n + 1) 1 z = x_nx q_k33 C s n ((x_st (x_push 3 (.int (30)))) C z) := x_to_at f33_1 C s n z
theorem f33_3 : x_fetch q_k33 3 = x_st (x_icge 17 6) := rfl
theorem t33_3 (C : xF) (s n : Nat) (z : xS) : x_to q_k33 C s (n + 1) 3 z = x_nx q_k33 C s n ((x_st (x_icge 17 6)) C z) := x_to_at f33_3 C s n z
theorem f33_6 : x_fetch q_k33 6 = x_lda 7 0 := rfl
theorem t33_6 (C : xF) (s n : Nat) (z : xS) : x_to q_k33 C s (n + 1) 6 z = x_nx q_k33 C s n ((x_lda 7 0) C z) := x_to_at f33_6 C s n z
theorem f33_7 : x_fetch q_k33 7 = x_gf 10 3 1 := rfl
theorem t33_7 (C : xF) (s n : Nat) (z : xS) : x_to q_k33 C s (n + 1) 7 z = x_nx q_k33 C s n ((x_gf 10 3 1) C z) := x_to_at f33_7 C s n z
theorem f33_10 : x_fetch q_k33 10 = x_lda 11 0 := rfl
theorem t33_10 (C : xF) (s n : Nat) (z : xS) : x_to q_k33 C s (n + 1) 10 z = x_nx q_k33 C s n ((x_lda 11 0) C z) := x_to_at f33_10 C s n z
theorem f33_11 : x_fetch q_k33 11 = x_gf 14 3 2 := rfl
theorem t33_11 (C : xF) (s n : Nat) (z : xS) : x_to q_k33 C s (n + 1) 11 z = x_nx q_k33 C s n ((x_gf 14 3 2) C z) := x_to_at f33_11 C s n z
theorem f33_14 : x_fetch q_k33 14 = x_st (x_iclt 19 17) := rfl
theorem t33_14 (C : xF) (s n : Nat) (z : xS) : x_to q_k33 C s (n + 1) 14 z = x_nx q_k33 C s n ((x_st (x_iclt 19 17)) C z) := x_to_at f33_14 C s n z
theorem f33_17 : x_fetch q_k33 17 = x_st (x_push 18 (.int (0))) := rfl
theorem t33_17 (C : xF) (s n : Nat) (z : xS) : x_to q_k33 C s (n + 1) 17 z = x_nx q_k33 C s n ((x_st (x_push 18 (.int (0)))) C z) := x_to_at f33_17 C s n z
theorem f33_18 : x_fetch q_k33 18 = x_ri (.boolean) := rfl
theorem t33_18 (C : xF) (s n : Nat) (z : xS) : x_to q_k33 C s (n + 1) 18 z = x_nx q_k33 C s n ((x_ri (.boolean)) C z) := x_to_at f33_18 C s n z
theorem f33_19 : x_fetch q_k33 19 = x_lda 20 0 := rfl
theorem t33_19 (C : xF) (s n : Nat) (z : xS) : x_to q_k33 C s (n + 1) 19 z = x_nx q_k33 C s n ((x_lda 20 0) C z) := x_to_at f33_19 C s n z
theorem f33_20 : x_fetch q_k33 20 = x_gf 23 3 0 := rfl
theorem t33_20 (C : xF) (s n : Nat) (z : xS) : x_to q_k33 C s (n + 1) 20 z = x_nx q_k33 C s n ((x_gf 23 3 0) C z) := x_to_at f33_20 C s n z
theorem f33_23 : x_fetch q_k33 23 = x_lda 24 0 := rfl
theorem t33_23 (C : xF) (s n : Nat) (z : xS) : x_to q_k33 C s (n + 1) 23 z = x_nx q_k33 C s n ((x_lda 24 0) C z) := x_to_at f33_23 C s n z
theorem f33_24 : x_fetch q_k33 24 = x_gf 27 3 1 := rfl
theorem t33_24 (C : xF) (s n : Nat) (z : xS) : x_to q_k33 C s (n + 1) 24 z = x_nx q_k33 C s n ((x_gf 27 3 1) C z) := x_to_at f33_24 C s n z
theorem f33_27 : x_fetch q_k33 27 = x_ald 28 2 := rfl
theorem t33_27 (C : xF) (s n : Nat) (z : xS) : x_to q_k33 C s (n + 1) 27 z = x_nx q_k33 C s n ((x_ald 28 2) C z) := x_to_at f33_27 C s n z
theorem f33_28 : x_fetch q_k33 28 = x_sti 29 3 := rfl
theorem t33_28 (C : xF) (s n : Nat) (z : xS) : x_to q_k33 C s (n + 1) 28 z = x_nx q_k33 C s n ((x_sti 29 3) C z) := x_to_at f33_28 C s n z
theorem f33_29 : x_fetch q_k33 29 = x_lda 30 0 := rfl
theorem t33_29 (C : xF) (s n : Nat) (z : xS) : x_to q_k33 C s (n + 1) 29 z = x_nx q_k33 C s n ((x_lda 30 0) C z) := x_to_at f33_29 C s n z
theorem f33_30 : x_fetch q_k33 30 = x_cv 33 32 1 3 := rfl
theorem t33_30 (C : xF) (s n : Nat) (z : xS) : x_to q_k33 C s (n + 1) 30 z = x_nx q_k33 C s n ((x_cv 33 32 1 3) C z) := x_to_at f33_30 C s n z
theorem f33_33 : x_fetch q_k33 33 = x_st (x_ifeq 58 36) := rfl
theorem t33_33 (C : xF) (s n : Nat) (z : xS) : x_to q_k33 C s (n + 1) 33 z = x_nx q_k33 C s n ((x_st (x_ifeq 58 36)) C z) := x_to_at f33_33 C s n z
theorem f33_36 : x_fetch q_k33 36 = x_lda 37 0 := rfl
theorem t33_36 (C : xF) (s n : Nat) (z : xS) : x_to q_k33 C s (n + 1) 36 z = x_nx q_k33 C s n ((x_lda 37 0) C z) := x_to_at f33_36 C s n z
theorem f33_37 : x_fetch q_k33 37 = x_st (x_dup 38) := rfl
theorem t33_37 (C : xF) (s n : Nat) (z : xS) : x_to q_k33 C s (n + 1) 37 z = x_nx q_k33 C s n ((x_st (x_dup 38)) C z) := x_to_at f33_37 C s n z
theorem f33_38 : x_fetch q_k33 38 = x_gf 41 3 1 := rfl
theorem t33_38 (C : xF) (s n : Nat) (z : xS) : x_to q_k33 C s (n + 1) 38 z = x_nx q_k33 C s n ((x_gf 41 3 1) C z) := x_to_at f33_38 C s n z
theorem f33_41 : x_fetch q_k33 41 = x_st (x_push 42 (.int (1))) := rfl
theorem t33_41 (C : xF) (s n : Nat) (z : xS) : x_to q_k33 C s (n + 1) 41 z = x_nx q_k33 C s n ((x_st (x_push 42 (.int (1)))) C z) := x_to_at f33_41 C s n z
theorem f33_42 : x_fetch q_k33 42 = x_st (x_bin 43 (fun a b => a + b)) := rfl
theorem t33_42 (C : xF) (s n : Nat) (z : xS) : x_to q_k33 C s (n + 1) 42 z = x_nx q_k33 C s n ((x_st (x_bin 43 (fun a b => a + b))) C z) := x_to_at f33_42 C s n z
theorem f33_43 : x_fetch q_k33 43 = x_pf 46 3 1 (.int) := rfl
theorem t33_43 (C : xF) (s n : Nat) (z : xS) : x_to q_k33 C s (n + 1) 43 z = x_nx q_k33 C s n ((x_pf 46 3 1 (.int)) C z) := x_to_at f33_43 C s n z
theorem f33_46 : x_fetch q_k33 46 = x_lda 47 1 := rfl
theorem t33_46 (C : xF) (s n : Nat) (z : xS) : x_to q_k33 C s (n + 1) 46 z = x_nx q_k33 C s n ((x_lda 47 1) C z) := x_to_at f33_46 C s n z
theorem f33_47 : x_fetch q_k33 47 = x_ldi 48 3 := rfl
theorem t33_47 (C : xF) (s n : Nat) (z : xS) : x_to q_k33 C s (n + 1) 47 z = x_nx q_k33 C s n ((x_ldi 48 3) C z) := x_to_at f33_47 C s n z
theorem f33_48 : x_fetch q_k33 48 = x_st (x_push 50 (.int (65))) := rfl
theorem t33_48 (C : xF) (s n : Nat) (z : xS) : x_to q_k33 C s (n + 1) 48 z = x_nx q_k33 C s n ((x_st (x_push 50 (.int (65)))) C z) := x_to_at f33_48 C s n z
theorem f33_50 : x_fetch q_k33 50 = x_st (x_bin 51 (fun a b => a - b)) := rfl
theorem t33_50 (C : xF) (s n : Nat) (z : xS) : x_to q_k33 C s (n + 1) 50 z = x_nx q_k33 C s n ((x_st (x_bin 51 (fun a b => a - b))) C z) := x_to_at f33_50 C s n z
theorem f33_51 : x_fetch q_k33 51 = x_cl_ 54 1 1 := rfl
theorem t33_51 (C : xF) (s n : Nat) (z : xS) : x_to q_k33 C s (n + 1) 51 z = x_nx q_k33 C s n ((x_cl_ 54 1 1) C z) := x_to_at f33_51 C s n z
theorem f33_54 : x_fetch q_k33 54 = x_cv 57 16 2 4 := rfl
theorem t33_54 (C : xF) (s n : Nat) (z : xS) : x_to q_k33 C s (n + 1) 54 z = x_nx q_k33 C s n ((x_cv 57 16 2 4) C z) := x_to_at f33_54 C s n z
theorem f33_57 : x_fetch q_k33 57 = x_ri (.boolean) := rfl
theorem t33_57 (C : xF) (s n : Nat) (z : xS) : x_to q_k33 C s (n + 1) 57 z = x_nx q_k33 C s n ((x_ri (.boolean)) C z) := x_to_at f33_57 C s n z
theorem f33_58 : x_fetch q_k33 58 = x_ldi 59 3 := rfl
theorem t33_58 (C : xF) (s n : Nat) (z : xS) : x_to q_k33 C s (n + 1) 58 z = x_nx q_k33 C s n ((x_ldi 59 3) C z) := x_to_at f33_58 C s n z
theorem f33_59 : x_fetch q_k33 59 = x_st (x_push 61 (.int (97))) := rfl
theorem t33_59 (C : xF) (s n : Nat) (z : xS) : x_to q_k33 C s (n + 1) 59 z = x_nx q_k33 C s n ((x_st (x_push 61 (.int (97)))) C z) := x_to_at f33_59 C s n z
theorem f33_61 : x_fetch q_k33 61 = x_st (x_iclt 70 64) := rfl
theorem t33_61 (C : xF) (s n : Nat) (z : xS) : x_to q_k33 C s (n + 1) 61 z = x_nx q_k33 C s n ((x_st (x_iclt 70 64)) C z) := x_to_at f33_61 C s n z
theorem f33_64 : x_fetch q_k33 64 = x_ldi 65 3 := rfl
theorem t33_64 (C : xF) (s n : Nat) (z : xS) : x_to q_k33 C s (n + 1) 64 z = x_nx q_k33 C s n ((x_ldi 65 3) C z) := x_to_at f33_64 C s n z
theorem f33_65 : x_fetch q_k33 65 = x_st (x_push 67 (.int (122))) := rfl
theorem t33_65 (C : xF) (s n : Nat) (z : xS) : x_to q_k33 C s (n + 1) 65 z = x_nx q_k33 C s n ((x_st (x_push 67 (.int (122)))) C z) := x_to_at f33_65 C s n z
theorem f33_67 : x_fetch q_k33 67 = x_st (x_icle 72 70) := rfl
theorem t33_67 (C : xF) (s n : Nat) (z : xS) : x_to q_k33 C s (n + 1) 67 z = x_nx q_k33 C s n ((x_st (x_icle 72 70)) C z) := x_to_at f33_67 C s n z
theorem f33_70 : x_fetch q_k33 70 = x_st (x_push 71 (.int (0))) := rfl
theorem t33_70 (C : xF) (s n : Nat) (z : xS) : x_to q_k33 C s (n + 1) 70 z = x_nx q_k33 C s n ((x_st (x_push 71 (.int (0)))) C z) := x_to_at f33_70 C s n z
theorem f33_71 : x_fetch q_k33 71 = x_ri (.boolean) := rfl
theorem t33_71 (C : xF) (s n : Nat) (z : xS) : x_to q_k33 C s (n + 1) 71 z = x_nx q_k33 C s n ((x_ri (.boolean)) C z) := x_to_at f33_71 C s n z
theorem f33_72 : x_fetch q_k33 72 = x_lda 73 0 := rfl
theorem t33_72 (C : xF) (s n : Nat) (z : xS) : x_to q_k33 C s (n + 1) 72 z = x_nx q_k33 C s n ((x_lda 73 0) C z) := x_to_at f33_72 C s n z
theorem f33_73 : x_fetch q_k33 73 = x_st (x_dup 74) := rfl
theorem t33_73 (C : xF) (s n : Nat) (z : xS) : x_to q_k33 C s (n + 1) 73 z = x_nx q_k33 C s n ((x_st (x_dup 74)) C z) := x_to_at f33_73 C s n z
theorem f33_74 : x_fetch q_k33 74 = x_gf 77 3 1 := rfl
theorem t33_74 (C : xF) (s n : Nat) (z : xS) : x_to q_k33 C s (n + 1) 74 z = x_nx q_k33 C s n ((x_gf 77 3 1) C z) := x_to_at f33_74 C s n z
theorem f33_77 : x_fetch q_k33 77 = x_st (x_push 78 (.int (1))) := rfl
theorem t33_77 (C : xF) (s n : Nat) (z : xS) : x_to q_k33 C s (n + 1) 77 z = x_nx q_k33 C s n ((x_st (x_push 78 (.int (1)))) C z) := x_to_at f33_77 C s n z
theorem f33_78 : x_fetch q_k33 78 = x_st (x_bin 79 (fun a b => a + b)) := rfl
theorem t33_78 (C : xF) (s n : Nat) (z : xS) : x_to q_k33 C s (n + 1) 78 z = x_nx q_k33 C s n ((x_st (x_bin 79 (fun a b => a + b))) C z) := x_to_at f33_78 C s n z
theorem f33_79 : x_fetch q_k33 79 = x_pf 82 3 1 (.int) := rfl
theorem t33_79 (C : xF) (s n : Nat) (z : xS) : x_to q_k33 C s (n + 1) 79 z = x_nx q_k33 C s n ((x_pf 82 3 1 (.int)) C z) := x_to_at f33_79 C s n z
theorem f33_82 : x_fetch q_k33 82 = x_lda 83 1 := rfl
theorem t33_82 (C : xF) (s n : Nat) (z : xS) : x_to q_k33 C s (n + 1) 82 z = x_nx q_k33 C s n ((x_lda 83 1) C z) := x_to_at f33_82 C s n z
theorem f33_83 : x_fetch q_k33 83 = x_gf 86 4 4 := rfl
theorem t33_83 (C : xF) (s n : Nat) (z : xS) : x_to q_k33 C s (n + 1) 83 z = x_nx q_k33 C s n ((x_gf 86 4 4) C z) := x_to_at f33_83 C s n z
theorem f33_86 : x_fetch q_k33 86 = x_sti 88 4 := rfl
theorem t33_86 (C : xF) (s n : Nat) (z : xS) : x_to q_k33 C s (n + 1) 86 z = x_nx q_k33 C s n ((x_sti 88 4) C z) := x_to_at f33_86 C s n z
theorem f33_88 : x_fetch q_k33 88 = x_lda 89 1 := rfl
theorem t33_88 (C : xF) (s n : Nat) (z : xS) : x_to q_k33 C s (n + 1) 88 z = x_nx q_k33 C s n ((x_lda 89 1) C z) := x_to_at f33_88 C s n z
theorem f33_89 : x_fetch q_k33 89 = x_ldi 90 3 := rfl
theorem t33_89 (C : xF) (s n : Nat) (z : xS) : x_to q_k33 C s (n + 1) 89 z = x_nx q_k33 C s n ((x_ldi 90 3) C z) := x_to_at f33_89 C s n z
theorem f33_90 : x_fetch q_k33 90 = x_st (x_push 91 (.int (0))) := rfl
theorem t33_90 (C : xF) (s n : Nat) (z : xS) : x_to q_k33 C s (n + 1) 90 z = x_nx q_k33 C s n ((x_st (x_push 91 (.int (0)))) C z) := x_to_at f33_90 C s n z
theorem f33_91 : x_fetch q_k33 91 = x_cl_ 94 0 2 := rfl
theorem t33_91 (C : xF) (s n : Nat) (z : xS) : x_to q_k33 C s (n + 1) 91 z = x_nx q_k33 C s n ((x_cl_ 94 0 2) C z) := x_to_at f33_91 C s n z
theorem f33_94 : x_fetch q_k33 94 = x_cv 97 16 2 4 := rfl
theorem t33_94 (C : xF) (s n : Nat) (z : xS) : x_to q_k33 C s (n + 1) 94 z = x_nx q_k33 C s n ((x_cv 97 16 2 4) C z) := x_to_at f33_94 C s n z
theorem f33_97 : x_fetch q_k33 97 = x_st (x_ifne 102 100) := rfl
theorem t33_97 (C : xF) (s n : Nat) (z : xS) : x_to q_k33 C s (n + 1) 97 z = x_nx q_k33 C s n ((x_st (x_ifne 102 100)) C z) := x_to_at f33_97 C s n z
theorem f33_100 : x_fetch q_k33 100 = x_st (x_push 101 (.int (0))) := rfl
theorem t33_100 (C : xF) (s n : Nat) (z : xS) : x_to q_k33 C s (n + 1) 100 z = x_nx q_k33 C s n ((x_st (x_push 101 (.int (0)))) C z) := x_to_at f33_100 C s n z
theorem f33_101 : x_fetch q_k33 101 = x_ri (.boolean) := rfl
theorem t33_101 (C : xF) (s n : Nat) (z : xS) : x_to q_k33 C s (n + 1) 101 z = x_nx q_k33 C s n ((x_ri (.boolean)) C z) := x_to_at f33_101 C s n z
theorem f33_102 : x_fetch q_k33 102 = x_lda 103 0 := rfl
theorem t33_102 (C : xF) (s n : Nat) (z : xS) : x_to q_k33 C s (n + 1) 102 z = x_nx q_k33 C s n ((x_lda 103 0) C z) := x_to_at f33_102 C s n z
theorem f33_103 : x_fetch q_k33 103 = x_st (x_push 105 (.int (40))) := rfl
theorem t33_103 (C : xF) (s n : Nat) (z : xS) : x_to q_k33 C s (n + 1) 103 z = x_nx q_k33 C s n ((x_st (x_push 105 (.int (40)))) C z) := x_to_at f33_103 C s n z
theorem f33_105 : x_fetch q_k33 105 = x_cv 108 34 2 3 := rfl
theorem t33_105 (C : xF) (s n : Nat) (z : xS) : x_to q_k33 C s (n + 1) 105 z = x_nx q_k33 C s n ((x_cv 108 34 2 3) C z) := x_to_at f33_105 C s n z
theorem f33_108 : x_fetch q_k33 108 = x_st (x_ifne 113 111) := rfl
theorem t33_108 (C : xF) (s n : Nat) (z : xS) : x_to q_k33 C s (n + 1) 108 z = x_nx q_k33 C s n ((x_st (x_ifne 113 111)) C z) := x_to_at f33_108 C s n z
theorem f33_111 : x_fetch q_k33 111 = x_st (x_push 112 (.int (1))) := rfl
theorem t33_111 (C : xF) (s n : Nat) (z : xS) : x_to q_k33 C s (n + 1) 111 z = x_nx q_k33 C s n ((x_st (x_push 112 (.int (1)))) C z) := x_to_at f33_111 C s n z
theorem f33_112 : x_fetch q_k33 112 = x_ri (.boolean) := rfl
theorem t33_112 (C : xF) (s n : Nat) (z : xS) : x_to q_k33 C s (n + 1) 112 z = x_nx q_k33 C s n ((x_ri (.boolean)) C z) := x_to_at f33_112 C s n z
theorem f33_113 : x_fetch q_k33 113 = x_st (x_push 114 (.int (1))) := rfl
theorem t33_113 (C : xF) (s n : Nat) (z : xS) : x_to q_k33 C s (n + 1) 113 z = x_nx q_k33 C s n ((x_st (x_push 114 (.int (1)))) C z) := x_to_at f33_113 C s n z
theorem f33_114 : x_fetch q_k33 114 = x_sti 116 5 := rfl
theorem t33_114 (C : xF) (s n : Nat) (z : xS) : x_to q_k33 C s (n + 1) 114 z = x_nx q_k33 C s n ((x_sti 116 5) C z) := x_to_at f33_114 C s n z
theorem f33_116 : x_fetch q_k33 116 = x_ldi 118 5 := rfl
theorem t33_116 (C : xF) (s n : Nat) (z : xS) : x_to q_k33 C s (n + 1) 116 z = x_nx q_k33 C s n ((x_ldi 118 5) C z) := x_to_at f33_116 C s n z
theorem f33_118 : x_fetch q_k33 118 = x_st (x_push 119 (.int (3))) := rfl
theorem t33_118 (C : xF) (s n : Nat) (z : xS) : x_to q_k33 C s (n + 1) 118 z = x_nx q_k33 C s n ((x_st (x_push 119 (.int (3)))) C z) := x_to_at f33_118 C s n z
theorem f33_119 : x_fetch q_k33 119 = x_st (x_icgt 176 122) := rfl
theorem t33_119 (C : xF) (s n : Nat) (z : xS) : x_to q_k33 C s (n + 1) 119 z = x_nx q_k33 C s n ((x_st (x_icgt 176 122)) C z) := x_to_at f33_119 C s n z
theorem f33_122 : x_fetch q_k33 122 = x_lda 123 0 := rfl
theorem t33_122 (C : xF) (s n : Nat) (z : xS) : x_to q_k33 C s (n + 1) 122 z = x_nx q_k33 C s n ((x_lda 123 0) C z) := x_to_at f33_122 C s n z
theorem f33_123 : x_fetch q_k33 123 = x_lda 124 1 := rfl
theorem t33_123 (C : xF) (s n : Nat) (z : xS) : x_to q_k33 C s (n + 1) 123 z = x_nx q_k33 C s n ((x_lda 124 1) C z) := x_to_at f33_123 C s n z
theorem f33_124 : x_fetch q_k33 124 = x_ldi 125 2 := rfl
theorem t33_124 (C : xF) (s n : Nat) (z : xS) : x_to q_k33 C s (n + 1) 124 z = x_nx q_k33 C s n ((x_ldi 125 2) C z) := x_to_at f33_124 C s n z
theorem f33_125 : x_fetch q_k33 125 = x_st (x_push 126 (.int (1))) := rfl
theorem t33_125 (C : xF) (s n : Nat) (z : xS) : x_to q_k33 C s (n + 1) 125 z = x_nx q_k33 C s n ((x_st (x_push 126 (.int (1)))) C z) := x_to_at f33_125 C s n z
theorem f33_126 : x_fetch q_k33 126 = x_st (x_bin 127 (fun a b => a + b)) := rfl
theorem t33_126 (C : xF) (s n : Nat) (z : xS) : x_to q_k33 C s (n + 1) 126 z = x_nx q_k33 C s n ((x_st (x_bin 127 (fun a b => a + b))) C z) := x_to_at f33_126 C s n z
theorem f33_127 : x_fetch q_k33 127 = x_cv 130 33 3 3 := rfl
theorem t33_127 (C : xF) (s n : Nat) (z : xS) : x_to q_k33 C s (n + 1) 127 z = x_nx q_k33 C s n ((x_cv 130 33 3 3) C z) := x_to_at f33_127 C s n z
theorem f33_130 : x_fetch q_k33 130 = x_st (x_ifne 135 133) := rfl
theorem t33_130 (C : xF) (s n : Nat) (z : xS) : x_to q_k33 C s (n + 1) 130 z = x_nx q_k33 C s n ((x_st (x_ifne 135 133)) C z) := x_to_at f33_130 C s n z
theorem f33_133 : x_fetch q_k33 133 = x_st (x_push 134 (.int (0))) := rfl
theorem t33_133 (C : xF) (s n : Nat) (z : xS) : x_to q_k33 C s (n + 1) 133 z = x_nx q_k33 C s n ((x_st (x_push 134 (.int (0)))) C z) := x_to_at f33_133 C s n z
theorem f33_134 : x_fetch q_k33 134 = x_ri (.boolean) := rfl
theorem t33_134 (C : xF) (s n : Nat) (z : xS) : x_to q_k33 C s (n + 1) 134 z = x_nx q_k33 C s n ((x_ri (.boolean)) C z) := x_to_at f33_134 C s n z
theorem f33_135 : x_fetch q_k33 135 = x_lda 136 0 := rfl
theorem t33_135 (C : xF) (s n : Nat) (z : xS) : x_to q_k33 C s (n + 1) 135 z = x_nx q_k33 C s n ((x_lda 136 0) C z) := x_to_at f33_135 C s n z
theorem f33_136 : x_fetch q_k33 136 = x_st (x_push 138 (.int (41))) := rfl
theorem t33_136 (C : xF) (s n : Nat) (z : xS) : x_to q_k33 C s (n + 1) 136 z = x_nx q_k33 C s n ((x_st (x_push 138 (.int (41)))) C z) := x_to_at f33_136 C s n z
theorem f33_138 : x_fetch q_k33 138 = x_cv 141 34 2 3 := rfl
theorem t33_138 (C : xF) (s n : Nat) (z : xS) : x_to q_k33 C s (n + 1) 138 z = x_nx q_k33 C s n ((x_cv 141 34 2 3) C z) := x_to_at f33_138 C s n z
theorem f33_141 : x_fetch q_k33 141 = x_st (x_ifeq 159 144) := rfl
theorem t33_141 (C : xF) (s n : Nat) (z : xS) : x_to q_k33 C s (n + 1) 141 z = x_nx q_k33 C s n ((x_st (x_ifeq 159 144)) C z) := x_to_at f33_141 C s n z
theorem f33_144 : x_fetch q_k33 144 = x_lda 145 1 := rfl
theorem t33_144 (C : xF) (s n : Nat) (z : xS) : x_to q_k33 C s (n + 1) 144 z = x_nx q_k33 C s n ((x_lda 145 1) C z) := x_to_at f33_144 C s n z
theorem f33_145 : x_fetch q_k33 145 = x_gf 148 4 0 := rfl
theorem t33_145 (C : xF) (s n : Nat) (z : xS) : x_to q_k33 C s (n + 1) 145 z = x_nx q_k33 C s n ((x_gf 148 4 0) C z) := x_to_at f33_145 C s n z
theorem f33_148 : x_fetch q_k33 148 = x_ldi 150 4 := rfl
theorem t33_148 (C : xF) (s n : Nat) (z : xS) : x_to q_k33 C s (n + 1) 148 z = x_nx q_k33 C s n ((x_ldi 150 4) C z) := x_to_at f33_148 C s n z
theorem f33_150 : x_fetch q_k33 150 = x_ldi 151 3 := rfl
theorem t33_150 (C : xF) (s n : Nat) (z : xS) : x_to q_k33 C s (n + 1) 150 z = x_nx q_k33 C s n ((x_ldi 151 3) C z) := x_to_at f33_150 C s n z
theorem f33_151 : x_fetch q_k33 151 = x_ldi 153 5 := rfl
theorem t33_151 (C : xF) (s n : Nat) (z : xS) : x_to q_k33 C s (n + 1) 151 z = x_nx q_k33 C s n ((x_ldi 153 5) C z) := x_to_at f33_151 C s n z
theorem f33_153 : x_fetch q_k33 153 = x_cl_ 156 0 2 := rfl
theorem t33_153 (C : xF) (s n : Nat) (z : xS) : x_to q_k33 C s (n + 1) 153 z = x_nx q_k33 C s n ((x_cl_ 156 0 2) C z) := x_to_at f33_153 C s n z
theorem f33_156 : x_fetch q_k33 156 = x_ast 157 0 (fun x => x) := rfl
theorem t33_156 (C : xF) (s n : Nat) (z : xS) : x_to q_k33 C s (n + 1) 156 z = x_nx q_k33 C s n ((x_ast 157 0 (fun x => x)) C z) := x_to_at f33_156 C s n z
theorem f33_157 : x_fetch q_k33 157 = x_st (x_push 158 (.int (1))) := rfl
theorem t33_157 (C : xF) (s n : Nat) (z : xS) : x_to q_k33 C s (n + 1) 157 z = x_nx q_k33 C s n ((x_st (x_push 158 (.int (1)))) C z) := x_to_at f33_157 C s n z
theorem f33_158 : x_fetch q_k33 158 = x_ri (.boolean) := rfl
theorem t33_158 (C : xF) (s n : Nat) (z : xS) : x_to q_k33 C s (n + 1) 158 z = x_nx q_k33 C s n ((x_ri (.boolean)) C z) := x_to_at f33_158 C s n z
theorem f33_159 : x_fetch q_k33 159 = x_lda 160 0 := rfl
theorem t33_159 (C : xF) (s n : Nat) (z : xS) : x_to q_k33 C s (n + 1) 159 z = x_nx q_k33 C s n ((x_lda 160 0) C z) := x_to_at f33_159 C s n z
set_option maxRecDepth 20000 in
theorem f33_160 : x_fetch q_k33 160 = x_st (x_push 162 (.int (44))) := rfl
theorem t33_160 (C : xF) (s n : Nat) (z : xS) : x_to q_k33 C s (n + 1) 160 z = x_nx q_k33 C s n ((x_st (x_push 162 (.int (44)))) C z) := x_to_at f33_160 C s n z
set_option maxRecDepth 20000 in
theorem f33_162 : x_fetch q_k33 162 = x_cv 165 34 2 3 := rfl
theorem t33_162 (C : xF) (s n : Nat) (z : xS) : x_to q_k33 C s (n + 1) 162 z = x_nx q_k33 C s n ((x_cv 165 34 2 3) C z) := x_to_at f33_162 C s n z
set_option maxRecDepth 20000 in
theorem f33_165 : x_fetch q_k33 165 = x_st (x_ifne 170 168) := rfl
theorem t33_165 (C : xF) (s n : Nat) (z : xS) : x_to q_k33 C s (n + 1) 165 z = x_nx q_k33 C s n ((x_st (x_ifne 170 168)) C z) := x_to_at f33_165 C s n z
set_option maxRecDepth 20000 in
theorem f33_168 : x_fetch q_k33 168 = x_st (x_push 169 (.int (0))) := rfl
theorem t33_168 (C : xF) (s n : Nat) (z : xS) : x_to q_k33 C s (n + 1) 168 z = x_nx q_k33 C s n ((x_st (x_push 169 (.int (0)))) C z) := x_to_at f33_168 C s n z
set_option maxRecDepth 20000 in
theorem f33_169 : x_fetch q_k33 169 = x_ri (.boolean) := rfl
theorem t33_169 (C : xF) (s n : Nat) (z : xS) : x_to q_k33 C s (n + 1) 169 z = x_nx q_k33 C s n ((x_ri (.boolean)) C z) := x_to_at f33_169 C s n z
set_option maxRecDepth 20000 in
theorem f33_170 : x_fetch q_k33 170 = x_iinc 173 5 (1) := rfl
theorem t33_170 (C : xF) (s n : Nat) (z : xS) : x_to q_k33 C s (n + 1) 170 z = x_nx q_k33 C s n ((x_iinc 173 5 (1)) C z) := x_to_at f33_170 C s n z
set_option maxRecDepth 20000 in
theorem f33_173 : x_fetch q_k33 173 = x_st (x_goto 116) := rfl
theorem t33_173 (C : xF) (s n : Nat) (z : xS) : x_to q_k33 C s (n + 1) 173 z = x_nx q_k33 C s n ((x_st (x_goto 116)) C z) := x_to_at f33_173 C s n z
set_option maxRecDepth 20000 in
theorem f33_176 : x_fetch q_k33 176 = x_st (x_push 177 (.int (0))) := rfl
theorem t33_176 (C : xF) (s n : Nat) (z : xS) : x_to q_k33 C s (n + 1) 176 z = x_nx q_k33 C s n ((x_st (x_push 177 (.int (0)))) C z) := x_to_at f33_176 C s n z
set_option maxRecDepth 20000 in
theorem f33_177 : x_fetch q_k33 177 = x_ri (.boolean) := rfl
theorem t33_177 (C : xF) (s n : Nat) (z : xS) : x_to q_k33 C s (n + 1) 177 z = x_nx q_k33 C s n ((x_ri (.boolean)) C z) := x_to_at f33_177 C s n z
theorem LQ.mv {w w' : Nat → xC} {a : Nat} {C : List (Int × List Int)} {b : Int} {t : List Int} (h : LQ w a C b t) (f : ∀ j, a ≤ j → j ≤ a + 3 → w' j = w j) : LQ w' a C b t := by
  obtain ⟨S, E, B, ⟨h1, h2, h3, h4⟩, h5⟩ := h
  exact ⟨S, E, B, ⟨(f a (by omega) (by omega)).trans h1, (f (a + 1) (by omega) (by omega)).trans h2, (f (a + 2) (by omega) (by omega)).trans h3, (f (a + 3) (by omega) (by omega)).trans h4⟩, h5⟩
theorem LA.mv {w w' : Nat → xC} {a : Nat} {C : List (Int × List Int)} (h : LA w a C) (f : ∀ j, a ≤ j → j ≤ a + 3 → w' j = w j) : LA w' a C := by
  obtain ⟨S, E, B, o, ⟨h1, h2, h3, h4⟩, h5⟩ := h
  exact ⟨S, E, B, o, ⟨(f a (by omega) (by omega)).trans h1, (f (a + 1) (by omega) (by omega)).trans h2, (f (a + 2) (by omega) (by omega)).trans h3, (f (a + 3) (by omega) (by omega)).trans h4⟩, h5⟩
theorem JK.mv {w w' : Nat → xC} {a : Nat} (h : JK w a) (f : ∀ j, a ≤ j → j ≤ a + 3 → w' j = w j) : JK w' a := by
  obtain ⟨S, E, B, c, o, u, ⟨h1, h2, h3, h4⟩, h5⟩ := h
  exact ⟨S, E, B, c, o, u, ⟨(f a (by omega) (by omega)).trans h1, (f (a + 1) (by omega) (by omega)).trans h2, (f (a + 2) (by omega) (by omega)).trans h3, (f (a + 3) (by omega) (by omega)).trans h4⟩, h5⟩
def ksJ : List Nat := [1, 7, 8, 9, 10]
theorem jk_le {w w' : Nat → xC} {N : Nat} {p l p' l' : Int} (f : Fr ksJ w w') (a : JK w 7) (b : JK w' 7) (h : w 1 = pO p l) (h' : w' 1 = pO p' l') : x_le (hp w N) (hp w' N) := hp_le (Nat.le_refl _) (fun j _ => by
  by_cases hj : j ∈ ksJ
  · obtain ⟨S, E, B, c, o, u, ⟨a1, a2, a3, a4⟩, a5, a6, a7, _⟩ := a
    obtain ⟨S', E', B', c', o', u', ⟨b1, b2, b3, b4⟩, b5, b6, b7, _⟩ := b
    have a2' : w 8 = cI 0 S := a2
    have a3' : w 9 = cI 0 E := a3
    have a4' : w 10 = cI 1 B := a4
    have b2' : w' 8 = cI 0 S' := b2
    have b3' : w' 9 = cI 0 E' := b3
    have b4' : w' 10 = cI 1 B' := b4
    unfold ksJ at hj
    simp only [List.mem_cons, List.not_mem_nil, or_false] at hj
    rcases hj with rfl | rfl | rfl | rfl | rfl
    · rw [h, h']; simp [x_c1]
    · rw [a1, b1]; simp [x_c1]
    · rw [a2', b2']; simp [x_c1, a5, b5]
    · rw [a3', b3']; simp [x_c1, a6, b6]
    · rw [a4', b4']; simp [x_c1, a7, b7]
  · rw [f j hj]
    exact Nat.le_refl _)
def ksF : List Nat := [1, 7, 8]
def R33 (d N : Nat) (Tx : List Int) (l : Int) (C : List (Int × List Int)) (b : Int) (n : Nat) (r t : List Int) (w : Nat → xC) : Prop :=
  (∃ (u r1 : List Int) (p' : Int) (w' : Nat → xC), rdT n r = some (u, r1) ∧ t.length + u.length ≤ 40 ∧ Fr ksF w w' ∧ LQ w' 7 C b (t ++ u) ∧ w' 1 = pO p' l ∧ DX Tx l p' r1 ∧ Xc (d + n + 2) 33 [.ref 4, .ref 10, .int (iZ (30 - (n : Int)))] (hp w N) (some (.int (iZ 1)), hp w' N)) ∨
  ((∀ u r1, rdT n r = some (u, r1) → 40 < t.length + u.length) ∧ ∃ (p' : Int) (w' : Nat → xC), Fr ksF w w' ∧ JK w' 7 ∧ w' 1 = pO p' l ∧ Xc (d + n + 2) 33 [.ref 4, .ref 10, .int (iZ (30 - (n : Int)))] (hp w N) (some (.int (iZ 0)), hp w' N))
def lv33 (lv : xL) (g c pl k : Int) : Prop := c1 lv ∧ x_lk lv 0 = some (.ref 4) ∧ x_lk lv 1 = some (.ref 10) ∧ x_lk lv 2 = some (.int (iZ g)) ∧ x_lk lv 3 = some (.int (iZ c)) ∧ x_lk lv 4 = some (.int (iZ pl)) ∧ x_lk lv 5 = some (.int (iZ k))
theorem rdA_pre {f : List Int → Option (List Int × List Int)} {q : Nat} {r : List Int} {k : Int} {us r2 : List Int} (h : rdA f (q + 1) r = some (k, us, r2)) : ∃ u r1, f r = some (u, r1) ∧ u.length ≤ us.length := by
  unfold rdA at h
  split at h
  · cases h
  · cases h
  · next t c r1 hr =>
    refine ⟨t, c :: r1, hr, ?_⟩
    split at h
    · cases h
      omega
    · split at h
      · split at h
        · cases h
        · cases h
          simp
      · cases h
section TM
variable {N : Nat} {Tx : List Int} {l : Int} {C : List (Int × List Int)} {b : Int}
set_option maxHeartbeats 1000000 in
theorem A33 (d : Nat) (hN : 53 ≤ N) (n : Nat) (IH : ∀ (r t : List Int) (p : Int) (w : Nat → xC), LQ w 7 C b t → w 1 = pO p l → w 2 = cI 2 Tx → DX Tx l p r → R33 d N Tx l C b n r t w) (g c : Int) (hg : g + 1 = 30 - (n : Int)) (c0 : 97 ≤ c) (c9 : c ≤ 122) (g0 : 0 ≤ g) (g9 : g < 30) (t : List Int) :
    ∀ (q : Nat) (ts r : List Int) (p : Int) (w : Nat → xC) (lv : xL), q ≤ 3 → LQ w 7 C b (t ++ (100 + 4 * (c - 97)) :: ts) → w 1 = pO p l → w 2 = cI 2 Tx → DX Tx l p r → lv33 lv g c ((flt C).length + t.length) (4 - (q : Int)) →
    (∃ (kk : Int) (us r2 : List Int) (p' : Int) (w' : Nat → xC), rdA (rdT n) q r = some (kk, us, r2) ∧ t.length + 1 + ts.length + us.length ≤ 40 ∧ Fr ksF w w' ∧ LQ w' 7 C b (t ++ (100 + 4 * (c - 97) + (3 - (q : Int)) + kk) :: (ts ++ us)) ∧ w' 1 = pO p' l ∧ DX Tx l p' r2 ∧ Gx q_k33 (d + n + 2) 116 (lv, [], hp w N) (some (.int (iZ 1)), hp w' N)) ∨
    ((∀ kk us r2, rdA (rdT n) q r = some (kk, us, r2) → 40 < t.length + 1 + ts.length + us.length) ∧ ∃ (p' : Int) (w' : Nat → xC), Fr ksF w w' ∧ JK w' 7 ∧ w' 1 = pO p' l ∧ Gx q_k33 (d + n + 2) 116 (lv, [], hp w N) (some (.int (iZ 0)), hp w' N))
  | 0, ts, r, p, w, lv, hq, hL, h1, h2, hx, hl => by
    obtain ⟨hc, l0, l1, l2, l3, l4, l5⟩ := hl
    refine Or.inr ⟨fun kk us r2 z => (by cases z), p, w, Fr.rf _ _, hL.jk, h1, Gx.fin 20 Cs.tt (fun X _ => ?_)⟩
    rw [show (4 : Int) - ((0 : Nat) : Int) = 4 by omega] at l5
    simp (disch := first | (refine c1_id ?_; assumption) | (refine c1_st rfl ?_; repeat (first | assumption | refine c1_st rfl ?_)) | omega) [nx_l, nx_r, nx_n, x_st, x_push, x_bin, x_div, x_un, x_dup, x_pop, x_dup2, x_goto, x_ifeq, x_ifne, x_iflt, x_ifge, x_ifgt, x_ifle, x_iceq, x_icne, x_iclt, x_icge, x_icgt, x_icle, x_ifnull, x_ifnonnull, x_ldi, x_lda, x_sti, x_sta, x_iinc, x_gf, x_pf, x_ald, x_ast, x_aln, x_len, x_cl_, x_cv, x_cs, x_rc, x_r0, x_isT, x_oi, x_rv, x_ri, x_ra, Value.category, t33_0, t33_1, t33_3, t33_6, t33_7, t33_10, t33_11, t33_14, t33_17, t33_18, t33_19, t33_20, t33_23, t33_24, t33_27, t33_28, t33_29, t33_30, t33_33, t33_36, t33_37, t33_38, t33_41, t33_42, t33_43, t33_46, t33_47, t33_48, t33_50, t33_51, t33_54, t33_57, t33_58, t33_59, t33_61, t33_64, t33_65, t33_67, t33_70, t33_71, t33_72, t33_73, t33_74, t33_77, t33_78, t33_79, t33_82, t33_83, t33_86, t33_88, t33_89, t33_90, t33_91, t33_94, t33_97, t33_100, t33_101, t33_102, t33_103, t33_105, t33_108, t33_111, t33_112, t33_113, t33_114, t33_116, t33_118, t33_119, t33_122, t33_123, t33_124, t33_125, t33_126, t33_127, t33_130, t33_133, t33_134, t33_135, t33_136, t33_138, t33_141, t33_144, t33_145, t33_148, t33_150, t33_151, t33_153, t33_156, t33_157, t33_158, t33_159, t33_160, t33_162, t33_165, t33_168, t33_169, t33_170, t33_173, t33_176, t33_177, lk_s, hp_get, hp_set, uH_at, uH_ne, uH_upd, uH_swap, iZ_add, iZ_sub, iZ_mul, iZ_neg, iZ_lt, iZ_le, iZ_eq, iZ_div, iZ_of, ix_Z, gZ_map, gZ_mapI, gZ_map', le_0, le_s, sZ_map, sZ_len, bZ_0, bZ_inj, bZ_t, bZ_f, nr_i, nr_0, nr_1, nr_b, ft_i, ft_b, ft_0, ft_1, zl_0, zl_1, zl_3, zl_30, zl_40, zl_41, zl_44, zl_65, zl_97, zl_122, l5, zl_4, -List.filter_filter, -List.getElem?_map, -List.getD_eq_getElem?_getD]
  | q + 1, ts, r, p, w, lv, hq, hL, h1, h2, hx, hl => by
    have hl' := hl
    obtain ⟨hc, l0, l1, l2, l3, l4, l5⟩ := hl'
    obtain ⟨k, hk⟩ : ∃ k : Int, k = 4 - ((q + 1 : Nat) : Int) := ⟨_, rfl⟩
    rw [← hk] at l5
    have k3 : ¬ 3 < k := by omega
    have k0 : 1 ≤ k := by omega
    obtain ⟨gg, hgg⟩ : ∃ gg : Int, gg = 30 - (n : Int) := ⟨_, rfl⟩
    rw [← hgg] at hg
    have tl : (t ++ (100 + 4 * (c - 97)) :: ts).length = t.length + 1 + ts.length := by simp; omega
    rcases IH r (t ++ (100 + 4 * (c - 97)) :: ts) p w hL h1 h2 hx with ⟨u, r1, p1, w1, i1, i2, i3, i4, i5, i6, i7⟩ | ⟨i1, p1, w1, i2, i3, i4, i5⟩
    · rw [← hgg] at i7
      rw [tl] at i2
      have h21 : w1 2 = cI 2 Tx := (i3 2 (by decide)).trans h2
      have i4' : LQ w1 7 C b (t ++ (100 + 4 * (c - 97)) :: (ts ++ u)) := by
        have e : t ++ (100 + 4 * (c - 97)) :: ts ++ u = t ++ (100 + 4 * (c - 97)) :: (ts ++ u) := by simp
        rw [e] at i4
        exact i4
      by_cases hcl : ∃ r2, r1 = 41 :: r2
      · obtain ⟨r2, rfl⟩ := hcl
        have Xt := m34y (N := N) (d + n + 1) hN i5 h21 i6
        obtain ⟨w2, hw2⟩ : ∃ w2, w2 = uH w1 1 (pO (p1 + 1) l) := ⟨_, rfl⟩
        have L2 : LQ w2 7 C b (t ++ (100 + 4 * (c - 97)) :: (ts ++ u)) := i4'.mv (fun j j0 _ => by rw [hw2, uH_ne (by omega)])
        have X0 := m0 (d + n + 1) w2 N c k
        obtain ⟨S, E, B, s1, s2, s3, s4⟩ := L2.set (s' := 100 + 4 * (c - 97) + k) ⟨by omega, by omega, fun z => by omega⟩
        have hv : vc (100 + 4 * (c - 97) + k) = 4 * (c - 97) + k := by
          unfold vc
          rw [if_neg (by omega), if_neg (by omega)]
          omega
        rw [hv] at s4
        refine Or.inl ⟨1, u, r2, p1 + 1, uH w2 8 (cI 0 (sZ S ((flt C).length + t.length) (4 * (c - 97) + k))), ?_, i2, ?_, ?_, ?_, i6.tl, ?_⟩
        · unfold rdA
          rw [i1]
          rfl
        · exact (i3.tr (by rw [hw2]; exact (Fr.rf _ _).up (by decide))).up (by decide)
        · rw [show 100 + 4 * (c - 97) + (3 - ((q + 1 : Nat) : Int)) + 1 = 100 + 4 * (c - 97) + k by omega]
          exact s4
        · rw [uH_ne (by decide), hw2, uH_at]
        · have f7 := s1.1
          have f8 : w2 8 = cI 0 S := s1.2.1
          obtain ⟨pp, hpp⟩ : ∃ pp : Int, pp = (flt C).length + t.length := ⟨_, rfl⟩
          have pp0 : 0 ≤ pp := by omega
          have pp8 : pp < 80 := by omega
          rw [← hpp] at l4 ⊢
          refine Gx.fin 80 ((i7.and Xt).and X0) (fun X mm => ?_)
          obtain ⟨⟨mm1, mm2⟩, mm3⟩ := mm
          rw [← hw2] at mm2
          simp (disch := first | (refine c1_id ?_; assumption) | (refine c1_st rfl ?_; repeat (first | assumption | refine c1_st rfl ?_)) | omega) [nx_l, nx_r, nx_n, x_st, x_push, x_bin, x_div, x_un, x_dup, x_pop, x_dup2, x_goto, x_ifeq, x_ifne, x_iflt, x_ifge, x_ifgt, x_ifle, x_iceq, x_icne, x_iclt, x_icge, x_icgt, x_icle, x_ifnull, x_ifnonnull, x_ldi, x_lda, x_sti, x_sta, x_iinc, x_gf, x_pf, x_ald, x_ast, x_aln, x_len, x_cl_, x_cv, x_cs, x_rc, x_r0, x_isT, x_oi, x_rv, x_ri, x_ra, Value.category, t33_0, t33_1, t33_3, t33_6, t33_7, t33_10, t33_11, t33_14, t33_17, t33_18, t33_19, t33_20, t33_23, t33_24, t33_27, t33_28, t33_29, t33_30, t33_33, t33_36, t33_37, t33_38, t33_41, t33_42, t33_43, t33_46, t33_47, t33_48, t33_50, t33_51, t33_54, t33_57, t33_58, t33_59, t33_61, t33_64, t33_65, t33_67, t33_70, t33_71, t33_72, t33_73, t33_74, t33_77, t33_78, t33_79, t33_82, t33_83, t33_86, t33_88, t33_89, t33_90, t33_91, t33_94, t33_97, t33_100, t33_101, t33_102, t33_103, t33_105, t33_108, t33_111, t33_112, t33_113, t33_114, t33_116, t33_118, t33_119, t33_122, t33_123, t33_124, t33_125, t33_126, t33_127, t33_130, t33_133, t33_134, t33_135, t33_136, t33_138, t33_141, t33_144, t33_145, t33_148, t33_150, t33_151, t33_153, t33_156, t33_157, t33_158, t33_159, t33_160, t33_162, t33_165, t33_168, t33_169, t33_170, t33_173, t33_176, t33_177, lk_s, hp_get, hp_set, uH_at, uH_ne, uH_upd, uH_swap, iZ_add, iZ_sub, iZ_mul, iZ_neg, iZ_lt, iZ_le, iZ_eq, iZ_div, iZ_of, ix_Z, gZ_map, gZ_mapI, gZ_map', le_0, le_s, sZ_map, sZ_len, bZ_0, bZ_inj, bZ_t, bZ_f, nr_i, nr_0, nr_1, nr_b, ft_i, ft_b, ft_0, ft_1, zl_0, zl_1, zl_3, zl_30, zl_40, zl_41, zl_44, zl_65, zl_97, zl_122, l0, l1, l2, l3, l4, l5, k3, hg, h1, i5, mm1, mm2, mm3, f7, f8, pO, -List.filter_filter, -List.getElem?_map, -List.getD_eq_getElem?_getD]
      · have Xn := m34n (N := N) (c := 41) (d + n + 1) hN i5 h21 i6 (by omega) (by omega) (fun r' z => hcl ⟨r', z⟩)
        by_cases hco : ∃ r2, r1 = 44 :: r2
        · obtain ⟨r2, rfl⟩ := hco
          have Xt := m34y (N := N) (d + n + 1) hN i5 h21 i6
          obtain ⟨w2, hw2⟩ : ∃ w2, w2 = uH w1 1 (pO (p1 + 1) l) := ⟨_, rfl⟩
          rw [← hw2] at Xt
          have L2 : LQ w2 7 C b (t ++ (100 + 4 * (c - 97)) :: (ts ++ u)) := i4'.mv (fun j j0 _ => by rw [hw2, uH_ne (by omega)])
          have C5 := c1_st (i := 5) (v := .int (iZ (k + 1))) rfl hc
          have F2 : Fr ksF w w2 := i3.tr (by rw [hw2]; exact (Fr.rf _ _).up (by decide))
          have e12 : w2 1 = pO (p1 + 1) l := by rw [hw2, uH_at]
          have e22 : w2 2 = cI 2 Tx := by rw [hw2, uH_ne (by decide)]; exact h21
          have g116 : ∀ res, Gx q_k33 (d + n + 2) 116 ((5, .int (iZ (k + 1))) :: lv.filter (x_keep 5), [], hp w2 N) res → Gx q_k33 (d + n + 2) 116 (lv, [], hp w N) res := fun res hres => by
            refine Gx.run 80 ((i7.and Xn).and Xt) (fun X mm => ?_) (Gx.run (pc := 173) (z := ((5, .int (iZ (k + 1))) :: lv.filter (x_keep 5), [], hp w2 N)) 5 Cs.tt (fun X _ => ?_) hres)
            · obtain ⟨⟨mm1, mm2⟩, mm3⟩ := mm
              simp (disch := first | (refine c1_id ?_; assumption) | (refine c1_st rfl ?_; repeat (first | assumption | refine c1_st rfl ?_)) | omega) [nx_l, nx_r, nx_n, x_st, x_push, x_bin, x_div, x_un, x_dup, x_pop, x_dup2, x_goto, x_ifeq, x_ifne, x_iflt, x_ifge, x_ifgt, x_ifle, x_iceq, x_icne, x_iclt, x_icge, x_icgt, x_icle, x_ifnull, x_ifnonnull, x_ldi, x_lda, x_sti, x_sta, x_iinc, x_gf, x_pf, x_ald, x_ast, x_aln, x_len, x_cl_, x_cv, x_cs, x_rc, x_r0, x_isT, x_oi, x_rv, x_ri, x_ra, Value.category, t33_0, t33_1, t33_3, t33_6, t33_7, t33_10, t33_11, t33_14, t33_17, t33_18, t33_19, t33_20, t33_23, t33_24, t33_27, t33_28, t33_29, t33_30, t33_33, t33_36, t33_37, t33_38, t33_41, t33_42, t33_43, t33_46, t33_47, t33_48, t33_50, t33_51, t33_54, t33_57, t33_58, t33_59, t33_61, t33_64, t33_65, t33_67, t33_70, t33_71, t33_72, t33_73, t33_74, t33_77, t33_78, t33_79, t33_82, t33_83, t33_86, t33_88, t33_89, t33_90, t33_91, t33_94, t33_97, t33_100, t33_101, t33_102, t33_103, t33_105, t33_108, t33_111, t33_112, t33_113, t33_114, t33_116, t33_118, t33_119, t33_122, t33_123, t33_124, t33_125, t33_126, t33_127, t33_130, t33_133, t33_134, t33_135, t33_136, t33_138, t33_141, t33_144, t33_145, t33_148, t33_150, t33_151, t33_153, t33_156, t33_157, t33_158, t33_159, t33_160, t33_162, t33_165, t33_168, t33_169, t33_170, t33_173, t33_176, t33_177, lk_s, hp_get, hp_set, uH_at, uH_ne, uH_upd, uH_swap, iZ_add, iZ_sub, iZ_mul, iZ_neg, iZ_lt, iZ_le, iZ_eq, iZ_div, iZ_of, ix_Z, gZ_map, gZ_mapI, gZ_map', le_0, le_s, sZ_map, sZ_len, bZ_0, bZ_inj, bZ_t, bZ_f, nr_i, nr_0, nr_1, nr_b, ft_i, ft_b, ft_0, ft_1, zl_0, zl_1, zl_3, zl_30, zl_40, zl_41, zl_44, zl_65, zl_97, zl_122, l0, l1, l2, l3, l4, l5, k3, hg, h1, i5, mm1, mm2, mm3, pO, -List.filter_filter, -List.getElem?_map, -List.getD_eq_getElem?_getD]
            · simp (disch := first | (refine c1_id ?_; assumption) | (refine c1_st rfl ?_; repeat (first | assumption | refine c1_st rfl ?_)) | omega) [nx_l, nx_r, nx_n, x_st, x_push, x_bin, x_div, x_un, x_dup, x_pop, x_dup2, x_goto, x_ifeq, x_ifne, x_iflt, x_ifge, x_ifgt, x_ifle, x_iceq, x_icne, x_iclt, x_icge, x_icgt, x_icle, x_ifnull, x_ifnonnull, x_ldi, x_lda, x_sti, x_sta, x_iinc, x_gf, x_pf, x_ald, x_ast, x_aln, x_len, x_cl_, x_cv, x_cs, x_rc, x_r0, x_isT, x_oi, x_rv, x_ri, x_ra, Value.category, t33_0, t33_1, t33_3, t33_6, t33_7, t33_10, t33_11, t33_14, t33_17, t33_18, t33_19, t33_20, t33_23, t33_24, t33_27, t33_28, t33_29, t33_30, t33_33, t33_36, t33_37, t33_38, t33_41, t33_42, t33_43, t33_46, t33_47, t33_48, t33_50, t33_51, t33_54, t33_57, t33_58, t33_59, t33_61, t33_64, t33_65, t33_67, t33_70, t33_71, t33_72, t33_73, t33_74, t33_77, t33_78, t33_79, t33_82, t33_83, t33_86, t33_88, t33_89, t33_90, t33_91, t33_94, t33_97, t33_100, t33_101, t33_102, t33_103, t33_105, t33_108, t33_111, t33_112, t33_113, t33_114, t33_116, t33_118, t33_119, t33_122, t33_123, t33_124, t33_125, t33_126, t33_127, t33_130, t33_133, t33_134, t33_135, t33_136, t33_138, t33_141, t33_144, t33_145, t33_148, t33_150, t33_151, t33_153, t33_156, t33_157, t33_158, t33_159, t33_160, t33_162, t33_165, t33_168, t33_169, t33_170, t33_173, t33_176, t33_177, lk_s, hp_get, hp_set, uH_at, uH_ne, uH_upd, uH_swap, iZ_add, iZ_sub, iZ_mul, iZ_neg, iZ_lt, iZ_le, iZ_eq, iZ_div, iZ_of, ix_Z, gZ_map, gZ_mapI, gZ_map', le_0, le_s, sZ_map, sZ_len, bZ_0, bZ_inj, bZ_t, bZ_f, nr_i, nr_0, nr_1, nr_b, ft_i, ft_b, ft_0, ft_1, zl_0, zl_1, zl_3, zl_30, zl_40, zl_41, zl_44, zl_65, zl_97, zl_122, -List.filter_filter, -List.getElem?_map, -List.getD_eq_getElem?_getD]
          have L5 : lv33 ((5, .int (iZ (k + 1))) :: lv.filter (x_keep 5)) g c ((flt C).length + t.length) (4 - (q : Int)) := ⟨C5, by rw [lk_s hc]; exact l0, by rw [lk_s hc]; exact l1, by rw [lk_s hc]; exact l2, by rw [lk_s hc]; exact l3, by rw [lk_s hc]; exact l4, by rw [lk_s hc, show k + 1 = 4 - (q : Int) by omega]; rfl⟩
          rcases A33 d hN n IH g c (by omega) c0 c9 g0 g9 t q (ts ++ u) r2 (p1 + 1) w2 _ (by omega) L2 e12 e22 i6.tl L5 with ⟨kk, us, r3, p3, w3, j1, j2, j3, j4, j5, j6, j7⟩ | ⟨j1, p3, w3, j2, j3, j4, j5⟩
          · rw [List.length_append] at j2
            refine Or.inl ⟨kk + 1, u ++ us, r3, p3, w3, ?_, ?_, F2.tr j3, ?_, j5, j6, g116 _ j7⟩
            · unfold rdA
              rw [i1]
              dsimp only
              rw [if_neg (by decide), if_pos rfl, j1]
            · rw [List.length_append]
              omega
            · rw [show 100 + 4 * (c - 97) + (3 - ((q + 1 : Nat) : Int)) + (kk + 1) = 100 + 4 * (c - 97) + (3 - (q : Int)) + kk by omega, ← List.append_assoc]
              exact j4
          · refine Or.inr ⟨fun kk us r3 z => ?_, p3, w3, F2.tr j2, j3, j4, g116 _ j5⟩
            unfold rdA at z
            rw [i1] at z
            dsimp only at z
            rw [if_neg (by decide), if_pos rfl] at z
            cases hA : rdA (rdT n) q r2 with
            | none => rw [hA] at z; cases z
            | some v =>
              obtain ⟨k0, ts0, r20⟩ := v
              rw [hA] at z
              cases z
              have := j1 _ _ _ hA
              rw [List.length_append] at this ⊢
              omega
        · have Xm := m34n (N := N) (c := 44) (d + n + 1) hN i5 h21 i6 (by omega) (by omega) (fun r' z => hco ⟨r', z⟩)
          refine Or.inr ⟨fun kk us r3 z => ?_, p1, w1, i3, i4.jk, i5, ?_⟩
          · unfold rdA at z
            rw [i1] at z
            cases r1 with
            | nil => cases z
            | cons cc r2 =>
              dsimp only at z
              rw [if_neg (fun e => hcl ⟨r2, by rw [e]⟩), if_neg (fun e => hco ⟨r2, by rw [e]⟩)] at z
              cases z
          · refine Gx.fin 80 ((i7.and Xn).and Xm) (fun X mm => ?_)
            obtain ⟨⟨mm1, mm2⟩, mm3⟩ := mm
            simp (disch := first | (refine c1_id ?_; assumption) | (refine c1_st rfl ?_; repeat (first | assumption | refine c1_st rfl ?_)) | omega) [nx_l, nx_r, nx_n, x_st, x_push, x_bin, x_div, x_un, x_dup, x_pop, x_dup2, x_goto, x_ifeq, x_ifne, x_iflt, x_ifge, x_ifgt, x_ifle, x_iceq, x_icne, x_iclt, x_icge, x_icgt, x_icle, x_ifnull, x_ifnonnull, x_ldi, x_lda, x_sti, x_sta, x_iinc, x_gf, x_pf, x_ald, x_ast, x_aln, x_len, x_cl_, x_cv, x_cs, x_rc, x_r0, x_isT, x_oi, x_rv, x_ri, x_ra, Value.category, t33_0, t33_1, t33_3, t33_6, t33_7, t33_10, t33_11, t33_14, t33_17, t33_18, t33_19, t33_20, t33_23, t33_24, t33_27, t33_28, t33_29, t33_30, t33_33, t33_36, t33_37, t33_38, t33_41, t33_42, t33_43, t33_46, t33_47, t33_48, t33_50, t33_51, t33_54, t33_57, t33_58, t33_59, t33_61, t33_64, t33_65, t33_67, t33_70, t33_71, t33_72, t33_73, t33_74, t33_77, t33_78, t33_79, t33_82, t33_83, t33_86, t33_88, t33_89, t33_90, t33_91, t33_94, t33_97, t33_100, t33_101, t33_102, t33_103, t33_105, t33_108, t33_111, t33_112, t33_113, t33_114, t33_116, t33_118, t33_119, t33_122, t33_123, t33_124, t33_125, t33_126, t33_127, t33_130, t33_133, t33_134, t33_135, t33_136, t33_138, t33_141, t33_144, t33_145, t33_148, t33_150, t33_151, t33_153, t33_156, t33_157, t33_158, t33_159, t33_160, t33_162, t33_165, t33_168, t33_169, t33_170, t33_173, t33_176, t33_177, lk_s, hp_get, hp_set, uH_at, uH_ne, uH_upd, uH_swap, iZ_add, iZ_sub, iZ_mul, iZ_neg, iZ_lt, iZ_le, iZ_eq, iZ_div, iZ_of, ix_Z, gZ_map, gZ_mapI, gZ_map', le_0, le_s, sZ_map, sZ_len, bZ_0, bZ_inj, bZ_t, bZ_f, nr_i, nr_0, nr_1, nr_b, ft_i, ft_b, ft_0, ft_1, zl_0, zl_1, zl_3, zl_30, zl_40, zl_41, zl_44, zl_65, zl_97, zl_122, l0, l1, l2, l3, l4, l5, k3, hg, h1, i5, mm1, mm2, mm3, pO, -List.filter_filter, -List.getElem?_map, -List.getD_eq_getElem?_getD]
    · rw [← hgg] at i5
      refine Or.inr ⟨fun kk us r2 z => ?_, p1, w1, i2, i3, i4, ?_⟩
      · obtain ⟨u, r1, z1, z2⟩ := rdA_pre z
        have := i1 u r1 z1
        rw [tl] at this
        omega
      · refine Gx.fin 40 i5 (fun X mm => ?_)
        simp (disch := first | (refine c1_id ?_; assumption) | (refine c1_st rfl ?_; repeat (first | assumption | refine c1_st rfl ?_)) | omega) [nx_l, nx_r, nx_n, x_st, x_push, x_bin, x_div, x_un, x_dup, x_pop, x_dup2, x_goto, x_ifeq, x_ifne, x_iflt, x_ifge, x_ifgt, x_ifle, x_iceq, x_icne, x_iclt, x_icge, x_icgt, x_icle, x_ifnull, x_ifnonnull, x_ldi, x_lda, x_sti, x_sta, x_iinc, x_gf, x_pf, x_ald, x_ast, x_aln, x_len, x_cl_, x_cv, x_cs, x_rc, x_r0, x_isT, x_oi, x_rv, x_ri, x_ra, Value.category, t33_0, t33_1, t33_3, t33_6, t33_7, t33_10, t33_11, t33_14, t33_17, t33_18, t33_19, t33_20, t33_23, t33_24, t33_27, t33_28, t33_29, t33_30, t33_33, t33_36, t33_37, t33_38, t33_41, t33_42, t33_43, t33_46, t33_47, t33_48, t33_50, t33_51, t33_54, t33_57, t33_58, t33_59, t33_61, t33_64, t33_65, t33_67, t33_70, t33_71, t33_72, t33_73, t33_74, t33_77, t33_78, t33_79, t33_82, t33_83, t33_86, t33_88, t33_89, t33_90, t33_91, t33_94, t33_97, t33_100, t33_101, t33_102, t33_103, t33_105, t33_108, t33_111, t33_112, t33_113, t33_114, t33_116, t33_118, t33_119, t33_122, t33_123, t33_124, t33_125, t33_126, t33_127, t33_130, t33_133, t33_134, t33_135, t33_136, t33_138, t33_141, t33_144, t33_145, t33_148, t33_150, t33_151, t33_153, t33_156, t33_157, t33_158, t33_159, t33_160, t33_162, t33_165, t33_168, t33_169, t33_170, t33_173, t33_176, t33_177, lk_s, hp_get, hp_set, uH_at, uH_ne, uH_upd, uH_swap, iZ_add, iZ_sub, iZ_mul, iZ_neg, iZ_lt, iZ_le, iZ_eq, iZ_div, iZ_of, ix_Z, gZ_map, gZ_mapI, gZ_map', le_0, le_s, sZ_map, sZ_len, bZ_0, bZ_inj, bZ_t, bZ_f, nr_i, nr_0, nr_1, nr_b, ft_i, ft_b, ft_0, ft_1, zl_0, zl_1, zl_3, zl_30, zl_40, zl_41, zl_44, zl_65, zl_97, zl_122, l0, l1, l2, l3, l4, l5, k3, hg, h1, mm, pO, -List.filter_filter, -List.getElem?_map, -List.getD_eq_getElem?_getD]
set_option maxHeartbeats 1000000 in
theorem S33 (d : Nat) (hN : 53 ≤ N) : ∀ (n : Nat), n ≤ 30 → ∀ (r t : List Int) (p : Int) (w : Nat → xC), LQ w 7 C b t → w 1 = pO p l → w 2 = cI 2 Tx → DX Tx l p r → R33 d N Tx l C b n r t w
  | 0, _, r, t, p, w, hL, h1, h2, hx => by
    refine Or.inr ⟨fun u r1 z => (by cases z), p, w, Fr.rf _ _, hL.jk, h1, ?_⟩
    rw [show (30 : Int) - ((0 : Nat) : Int) = 30 by omega]
    refine Xc.of rfl (by simp [lg_sl, Value.category]) ?_ (x_le.rf)
    have hc : c1 (lv_args 0 [.ref 4, .ref 10, .int (iZ 30)]) := by simp [c1, lv_args, Value.category]
    have l0 : x_lk (lv_args 0 [.ref 4, .ref 10, .int (iZ 30)]) 0 = some (.ref 4) := rfl
    have l1 : x_lk (lv_args 0 [.ref 4, .ref 10, .int (iZ 30)]) 1 = some (.ref 10) := rfl
    have l2 : x_lk (lv_args 0 [.ref 4, .ref 10, .int (iZ 30)]) 2 = some (.int (iZ 30)) := rfl
    generalize lv_args 0 [.ref 4, .ref 10, .int (iZ 30)] = lv at hc l0 l1 l2
    refine Gx.fin 20 Cs.tt (fun X _ => ?_)
    simp (disch := first | (refine c1_id ?_; assumption) | (refine c1_st rfl ?_; repeat (first | assumption | refine c1_st rfl ?_)) | omega) [nx_l, nx_r, nx_n, x_st, x_push, x_bin, x_div, x_un, x_dup, x_pop, x_dup2, x_goto, x_ifeq, x_ifne, x_iflt, x_ifge, x_ifgt, x_ifle, x_iceq, x_icne, x_iclt, x_icge, x_icgt, x_icle, x_ifnull, x_ifnonnull, x_ldi, x_lda, x_sti, x_sta, x_iinc, x_gf, x_pf, x_ald, x_ast, x_aln, x_len, x_cl_, x_cv, x_cs, x_rc, x_r0, x_isT, x_oi, x_rv, x_ri, x_ra, Value.category, t33_0, t33_1, t33_3, t33_6, t33_7, t33_10, t33_11, t33_14, t33_17, t33_18, t33_19, t33_20, t33_23, t33_24, t33_27, t33_28, t33_29, t33_30, t33_33, t33_36, t33_37, t33_38, t33_41, t33_42, t33_43, t33_46, t33_47, t33_48, t33_50, t33_51, t33_54, t33_57, t33_58, t33_59, t33_61, t33_64, t33_65, t33_67, t33_70, t33_71, t33_72, t33_73, t33_74, t33_77, t33_78, t33_79, t33_82, t33_83, t33_86, t33_88, t33_89, t33_90, t33_91, t33_94, t33_97, t33_100, t33_101, t33_102, t33_103, t33_105, t33_108, t33_111, t33_112, t33_113, t33_114, t33_116, t33_118, t33_119, t33_122, t33_123, t33_124, t33_125, t33_126, t33_127, t33_130, t33_133, t33_134, t33_135, t33_136, t33_138, t33_141, t33_144, t33_145, t33_148, t33_150, t33_151, t33_153, t33_156, t33_157, t33_158, t33_159, t33_160, t33_162, t33_165, t33_168, t33_169, t33_170, t33_173, t33_176, t33_177, lk_s, hp_get, hp_set, uH_at, uH_ne, uH_upd, uH_swap, iZ_add, iZ_sub, iZ_mul, iZ_neg, iZ_lt, iZ_le, iZ_eq, iZ_div, iZ_of, ix_Z, gZ_map, gZ_mapI, gZ_map', le_0, le_s, sZ_map, sZ_len, bZ_0, bZ_inj, bZ_t, bZ_f, nr_i, nr_0, nr_1, nr_b, ft_i, ft_b, ft_0, ft_1, zl_0, zl_1, zl_3, zl_30, zl_40, zl_41, zl_44, zl_65, zl_97, zl_122, l2, -List.filter_filter, -List.getElem?_map, -List.getD_eq_getElem?_getD]
  | n + 1, hn, r, t, p, w, hL, h1, h2, hx => by
    have IH := S33 d hN n (by omega)
    obtain ⟨g, hg⟩ : ∃ g : Int, g = 30 - ((n + 1 : Nat) : Int) := ⟨_, rfl⟩
    have key : (∃ (u r1 : List Int) (p' : Int) (w' : Nat → xC), rdT (n + 1) r = some (u, r1) ∧ t.length + u.length ≤ 40 ∧ Fr ksF w w' ∧ LQ w' 7 C b (t ++ u) ∧ w' 1 = pO p' l ∧ DX Tx l p' r1 ∧ Gx q_k33 (d + n + 2) 0 (lv_args 0 [.ref 4, .ref 10, .int (iZ g)], [], hp w N) (some (.int (iZ 1)), hp w' N)) ∨
        ((∀ u r1, rdT (n + 1) r = some (u, r1) → 40 < t.length + u.length) ∧ ∃ (p' : Int) (w' : Nat → xC), Fr ksF w w' ∧ JK w' 7 ∧ w' 1 = pO p' l ∧ Gx q_k33 (d + n + 2) 0 (lv_args 0 [.ref 4, .ref 10, .int (iZ g)], [], hp w N) (some (.int (iZ 0)), hp w' N)) := by
      have hc : c1 (lv_args 0 [.ref 4, .ref 10, .int (iZ g)]) := by simp [c1, lv_args, Value.category]
      have l0 : x_lk (lv_args 0 [.ref 4, .ref 10, .int (iZ g)]) 0 = some (.ref 4) := rfl
      have l1 : x_lk (lv_args 0 [.ref 4, .ref 10, .int (iZ g)]) 1 = some (.ref 10) := rfl
      have l2 : x_lk (lv_args 0 [.ref 4, .ref 10, .int (iZ g)]) 2 = some (.int (iZ g)) := rfl
      generalize lv_args 0 [.ref 4, .ref 10, .int (iZ g)] = lv at hc l0 l1 l2 ⊢
      have g0 : 0 ≤ g := by omega
      have g30 : ¬ 30 ≤ g := by omega
      cases r with
      | nil =>
        obtain ⟨e1, e2, e3⟩ := hx.nil
        refine Or.inr ⟨fun u r1 z => (by cases z), p, w, Fr.rf _ _, hL.jk, h1, Gx.fin 40 Cs.tt (fun X _ => ?_)⟩
        have b1 : ¬ p < l := by omega
        simp (disch := first | (refine c1_id ?_; assumption) | (refine c1_st rfl ?_; repeat (first | assumption | refine c1_st rfl ?_)) | omega) [nx_l, nx_r, nx_n, x_st, x_push, x_bin, x_div, x_un, x_dup, x_pop, x_dup2, x_goto, x_ifeq, x_ifne, x_iflt, x_ifge, x_ifgt, x_ifle, x_iceq, x_icne, x_iclt, x_icge, x_icgt, x_icle, x_ifnull, x_ifnonnull, x_ldi, x_lda, x_sti, x_sta, x_iinc, x_gf, x_pf, x_ald, x_ast, x_aln, x_len, x_cl_, x_cv, x_cs, x_rc, x_r0, x_isT, x_oi, x_rv, x_ri, x_ra, Value.category, t33_0, t33_1, t33_3, t33_6, t33_7, t33_10, t33_11, t33_14, t33_17, t33_18, t33_19, t33_20, t33_23, t33_24, t33_27, t33_28, t33_29, t33_30, t33_33, t33_36, t33_37, t33_38, t33_41, t33_42, t33_43, t33_46, t33_47, t33_48, t33_50, t33_51, t33_54, t33_57, t33_58, t33_59, t33_61, t33_64, t33_65, t33_67, t33_70, t33_71, t33_72, t33_73, t33_74, t33_77, t33_78, t33_79, t33_82, t33_83, t33_86, t33_88, t33_89, t33_90, t33_91, t33_94, t33_97, t33_100, t33_101, t33_102, t33_103, t33_105, t33_108, t33_111, t33_112, t33_113, t33_114, t33_116, t33_118, t33_119, t33_122, t33_123, t33_124, t33_125, t33_126, t33_127, t33_130, t33_133, t33_134, t33_135, t33_136, t33_138, t33_141, t33_144, t33_145, t33_148, t33_150, t33_151, t33_153, t33_156, t33_157, t33_158, t33_159, t33_160, t33_162, t33_165, t33_168, t33_169, t33_170, t33_173, t33_176, t33_177, lk_s, hp_get, hp_set, uH_at, uH_ne, uH_upd, uH_swap, iZ_add, iZ_sub, iZ_mul, iZ_neg, iZ_lt, iZ_le, iZ_eq, iZ_div, iZ_of, ix_Z, gZ_map, gZ_mapI, gZ_map', le_0, le_s, sZ_map, sZ_len, bZ_0, bZ_inj, bZ_t, bZ_f, nr_i, nr_0, nr_1, nr_b, ft_i, ft_b, ft_0, ft_1, zl_0, zl_1, zl_3, zl_30, zl_40, zl_41, zl_44, zl_65, zl_97, zl_122, l0, l2, h1, g30, b1, pO, -List.filter_filter, -List.getElem?_map, -List.getD_eq_getElem?_getD]
      | cons c r =>
        obtain ⟨e1, e2, e3, e4, e5, e6, e7⟩ := hx.hd
        have Xv := m32 (N := N) (d + n + 1) hN h1 h2 hx
        have hU : hdU (c :: r) = decide (65 ≤ c ∧ c ≤ 90) := rfl
        rw [hU] at Xv
        have C3 := c1_st (i := 3) (v := .int (iZ c)) rfl hc
        have g29 : ∀ res, Gx q_k33 (d + n + 2) 29 ((3, .int (iZ c)) :: lv.filter (x_keep 3), [], hp w N) res → Gx q_k33 (d + n + 2) 0 (lv, [], hp w N) res := fun res hres => by
          refine Gx.run 60 Cs.tt (fun X _ => ?_) hres
          simp (disch := first | (refine c1_id ?_; assumption) | (refine c1_st rfl ?_; repeat (first | assumption | refine c1_st rfl ?_)) | omega) [nx_l, nx_r, nx_n, x_st, x_push, x_bin, x_div, x_un, x_dup, x_pop, x_dup2, x_goto, x_ifeq, x_ifne, x_iflt, x_ifge, x_ifgt, x_ifle, x_iceq, x_icne, x_iclt, x_icge, x_icgt, x_icle, x_ifnull, x_ifnonnull, x_ldi, x_lda, x_sti, x_sta, x_iinc, x_gf, x_pf, x_ald, x_ast, x_aln, x_len, x_cl_, x_cv, x_cs, x_rc, x_r0, x_isT, x_oi, x_rv, x_ri, x_ra, Value.category, t33_0, t33_1, t33_3, t33_6, t33_7, t33_10, t33_11, t33_14, t33_17, t33_18, t33_19, t33_20, t33_23, t33_24, t33_27, t33_28, t33_29, t33_30, t33_33, t33_36, t33_37, t33_38, t33_41, t33_42, t33_43, t33_46, t33_47, t33_48, t33_50, t33_51, t33_54, t33_57, t33_58, t33_59, t33_61, t33_64, t33_65, t33_67, t33_70, t33_71, t33_72, t33_73, t33_74, t33_77, t33_78, t33_79, t33_82, t33_83, t33_86, t33_88, t33_89, t33_90, t33_91, t33_94, t33_97, t33_100, t33_101, t33_102, t33_103, t33_105, t33_108, t33_111, t33_112, t33_113, t33_114, t33_116, t33_118, t33_119, t33_122, t33_123, t33_124, t33_125, t33_126, t33_127, t33_130, t33_133, t33_134, t33_135, t33_136, t33_138, t33_141, t33_144, t33_145, t33_148, t33_150, t33_151, t33_153, t33_156, t33_157, t33_158, t33_159, t33_160, t33_162, t33_165, t33_168, t33_169, t33_170, t33_173, t33_176, t33_177, lk_s, hp_get, hp_set, uH_at, uH_ne, uH_upd, uH_swap, iZ_add, iZ_sub, iZ_mul, iZ_neg, iZ_lt, iZ_le, iZ_eq, iZ_div, iZ_of, ix_Z, gZ_map, gZ_mapI, gZ_map', le_0, le_s, sZ_map, sZ_len, bZ_0, bZ_inj, bZ_t, bZ_f, nr_i, nr_0, nr_1, nr_b, ft_i, ft_b, ft_0, ft_1, zl_0, zl_1, zl_3, zl_30, zl_40, zl_41, zl_44, zl_65, zl_97, zl_122, l0, l2, h1, h2, e1, g30, e5, pO, -List.filter_filter, -List.getElem?_map, -List.getD_eq_getElem?_getD]
        have k0 : x_lk ((3, .int (iZ c)) :: lv.filter (x_keep 3)) 0 = some (.ref 4) := by rw [lk_s hc]; exact l0
        have k1 : x_lk ((3, .int (iZ c)) :: lv.filter (x_keep 3)) 1 = some (.ref 10) := by rw [lk_s hc]; exact l1
        have k2 : x_lk ((3, .int (iZ c)) :: lv.filter (x_keep 3)) 2 = some (.int (iZ g)) := by rw [lk_s hc]; exact l2
        have k3 : x_lk ((3, .int (iZ c)) :: lv.filter (x_keep 3)) 3 = some (.int (iZ c)) := by rw [lk_s hc]; rfl
        generalize ((3, .int (iZ c)) :: lv.filter (x_keep 3) : xL) = lv3 at C3 g29 k0 k1 k2 k3
        obtain ⟨w1, hw1⟩ : ∃ w1, w1 = uH w 1 (pO (p + 1) l) := ⟨_, rfl⟩
        have L1 : LQ w1 7 C b t := hL.mv (fun j j0 _ => by rw [hw1, uH_ne (by omega)])
        have F1 : Fr ksF w w1 := by rw [hw1]; exact (Fr.rf _ _).up (by decide)
        have e11 : w1 1 = pO (p + 1) l := by rw [hw1, uH_at]
        obtain ⟨F7, hF7⟩ := hL.k7
        have e21 : w1 2 = cI 2 Tx := by rw [hw1, uH_ne (by decide)]; exact h2
        have ern : rdT (n + 1) (c :: r) = if 65 ≤ c ∧ c ≤ 90 then some ([c - 65], r) else if 97 ≤ c ∧ c ≤ 122 then (match r with
            | [] => some ([100 + 4 * (c - 97)], [])
            | d :: r1 => if d = 40 then (match rdA (rdT n) 3 r1 with
              | none => none
              | some (k, ts, r2) => some ((100 + 4 * (c - 97) + k) :: ts, r2)) else some ([100 + 4 * (c - 97)], d :: r1)) else none := by
          cases r <;> rfl
        by_cases hv : 65 ≤ c ∧ c ≤ 90
        · rw [decide_eq_true hv, bZ_t] at Xv
          rw [if_pos hv] at ern
          have X1 := m1 (d + n + 1) w1 N (c - 65)
          have ev : vc (c - 65) = 128 + 4 * (c - 65) := by unfold vc; rw [if_pos (by omega)]
          have hsv : sgV (c - 65) := ⟨by omega, by omega, fun z => by omega⟩
          by_cases h4 : t.length < 40
          · obtain ⟨w2, s1, s2, s3⟩ := L1.put (N := N) (d + n + 1) (by omega) (c - 65) hsv h4
            rw [ev] at s3
            refine Or.inl ⟨[c - 65], r, p + 1, w2, ern, by simp; omega, F1.tr (s1.sub (by decide)), s2, (s1 1 (by decide)).trans e11, hx.tl, g29 _ (Gx.fin 60 ((Xv.and X1).and s3) (fun X mm => ?_))⟩
            obtain ⟨⟨mm1, mm2⟩, mm3⟩ := mm
            rw [hw1] at mm2 mm3
            simp (disch := first | (refine c1_id ?_; assumption) | (refine c1_st rfl ?_; repeat (first | assumption | refine c1_st rfl ?_)) | omega) [nx_l, nx_r, nx_n, x_st, x_push, x_bin, x_div, x_un, x_dup, x_pop, x_dup2, x_goto, x_ifeq, x_ifne, x_iflt, x_ifge, x_ifgt, x_ifle, x_iceq, x_icne, x_iclt, x_icge, x_icgt, x_icle, x_ifnull, x_ifnonnull, x_ldi, x_lda, x_sti, x_sta, x_iinc, x_gf, x_pf, x_ald, x_ast, x_aln, x_len, x_cl_, x_cv, x_cs, x_rc, x_r0, x_isT, x_oi, x_rv, x_ri, x_ra, Value.category, t33_0, t33_1, t33_3, t33_6, t33_7, t33_10, t33_11, t33_14, t33_17, t33_18, t33_19, t33_20, t33_23, t33_24, t33_27, t33_28, t33_29, t33_30, t33_33, t33_36, t33_37, t33_38, t33_41, t33_42, t33_43, t33_46, t33_47, t33_48, t33_50, t33_51, t33_54, t33_57, t33_58, t33_59, t33_61, t33_64, t33_65, t33_67, t33_70, t33_71, t33_72, t33_73, t33_74, t33_77, t33_78, t33_79, t33_82, t33_83, t33_86, t33_88, t33_89, t33_90, t33_91, t33_94, t33_97, t33_100, t33_101, t33_102, t33_103, t33_105, t33_108, t33_111, t33_112, t33_113, t33_114, t33_116, t33_118, t33_119, t33_122, t33_123, t33_124, t33_125, t33_126, t33_127, t33_130, t33_133, t33_134, t33_135, t33_136, t33_138, t33_141, t33_144, t33_145, t33_148, t33_150, t33_151, t33_153, t33_156, t33_157, t33_158, t33_159, t33_160, t33_162, t33_165, t33_168, t33_169, t33_170, t33_173, t33_176, t33_177, lk_s, hp_get, hp_set, uH_at, uH_ne, uH_upd, uH_swap, iZ_add, iZ_sub, iZ_mul, iZ_neg, iZ_lt, iZ_le, iZ_eq, iZ_div, iZ_of, ix_Z, gZ_map, gZ_mapI, gZ_map', le_0, le_s, sZ_map, sZ_len, bZ_0, bZ_inj, bZ_t, bZ_f, nr_i, nr_0, nr_1, nr_b, ft_i, ft_b, ft_0, ft_1, zl_0, zl_1, zl_3, zl_30, zl_40, zl_41, zl_44, zl_65, zl_97, zl_122, k0, k1, k2, k3, h1, hF7, mm1, mm2, mm3, pO, -List.filter_filter, -List.getElem?_map, -List.getD_eq_getElem?_getD]
          · have s3 := L1.full (N := N) (d + n + 1) (by omega) (128 + 4 * (c - 65)) h4
            refine Or.inr ⟨fun u r1 z => ?_, p + 1, w1, F1, L1.jk, e11, g29 _ (Gx.fin 60 ((Xv.and X1).and s3) (fun X mm => ?_))⟩
            · rw [ern] at z
              cases z
              simp only [List.length_singleton]
              omega
            · obtain ⟨⟨mm1, mm2⟩, mm3⟩ := mm
              rw [hw1] at mm2 mm3 ⊢
              simp (disch := first | (refine c1_id ?_; assumption) | (refine c1_st rfl ?_; repeat (first | assumption | refine c1_st rfl ?_)) | omega) [nx_l, nx_r, nx_n, x_st, x_push, x_bin, x_div, x_un, x_dup, x_pop, x_dup2, x_goto, x_ifeq, x_ifne, x_iflt, x_ifge, x_ifgt, x_ifle, x_iceq, x_icne, x_iclt, x_icge, x_icgt, x_icle, x_ifnull, x_ifnonnull, x_ldi, x_lda, x_sti, x_sta, x_iinc, x_gf, x_pf, x_ald, x_ast, x_aln, x_len, x_cl_, x_cv, x_cs, x_rc, x_r0, x_isT, x_oi, x_rv, x_ri, x_ra, Value.category, t33_0, t33_1, t33_3, t33_6, t33_7, t33_10, t33_11, t33_14, t33_17, t33_18, t33_19, t33_20, t33_23, t33_24, t33_27, t33_28, t33_29, t33_30, t33_33, t33_36, t33_37, t33_38, t33_41, t33_42, t33_43, t33_46, t33_47, t33_48, t33_50, t33_51, t33_54, t33_57, t33_58, t33_59, t33_61, t33_64, t33_65, t33_67, t33_70, t33_71, t33_72, t33_73, t33_74, t33_77, t33_78, t33_79, t33_82, t33_83, t33_86, t33_88, t33_89, t33_90, t33_91, t33_94, t33_97, t33_100, t33_101, t33_102, t33_103, t33_105, t33_108, t33_111, t33_112, t33_113, t33_114, t33_116, t33_118, t33_119, t33_122, t33_123, t33_124, t33_125, t33_126, t33_127, t33_130, t33_133, t33_134, t33_135, t33_136, t33_138, t33_141, t33_144, t33_145, t33_148, t33_150, t33_151, t33_153, t33_156, t33_157, t33_158, t33_159, t33_160, t33_162, t33_165, t33_168, t33_169, t33_170, t33_173, t33_176, t33_177, lk_s, hp_get, hp_set, uH_at, uH_ne, uH_upd, uH_swap, iZ_add, iZ_sub, iZ_mul, iZ_neg, iZ_lt, iZ_le, iZ_eq, iZ_div, iZ_of, ix_Z, gZ_map, gZ_mapI, gZ_map', le_0, le_s, sZ_map, sZ_len, bZ_0, bZ_inj, bZ_t, bZ_f, nr_i, nr_0, nr_1, nr_b, ft_i, ft_b, ft_0, ft_1, zl_0, zl_1, zl_3, zl_30, zl_40, zl_41, zl_44, zl_65, zl_97, zl_122, k0, k1, k2, k3, h1, hF7, mm1, mm2, mm3, pO, -List.filter_filter, -List.getElem?_map, -List.getD_eq_getElem?_getD]
        · rw [decide_eq_false hv, bZ_f] at Xv
          rw [if_neg hv] at ern
          by_cases hf : 97 ≤ c ∧ c ≤ 122
          · rw [if_pos hf] at ern
            have n1 : ¬ c < 97 := by omega
            have n2 : c ≤ 122 := hf.2
            have X0 := m0 (d + n + 1) w1 N c 0
            rw [Int.add_zero] at X0
            have ev : vc (100 + 4 * (c - 97)) = 4 * (c - 97) := by
              unfold vc
              rw [if_neg (by omega), if_neg (by omega)]
              omega
            have hsv : sgV (100 + 4 * (c - 97)) := ⟨by omega, by omega, fun z => by omega⟩
            have L1' := L1
            obtain ⟨S, E, B, ⟨f7, _⟩, _, _, _, _, _, _, _, t40, f40, _⟩ := L1'
            obtain ⟨pl, hpl⟩ : ∃ pl : Int, pl = ((flt C).length : Int) + t.length := ⟨_, rfl⟩
            rw [← hpl] at f7
            by_cases h4 : t.length < 40
            · obtain ⟨w2, s1, s2, s3⟩ := L1.put (N := N) (d + n + 1) (by omega) (100 + 4 * (c - 97)) hsv h4
              rw [ev] at s3
              have F2 : Fr ksF w w2 := F1.tr (s1.sub (by decide))
              have e12 : w2 1 = pO (p + 1) l := (s1 1 (by decide)).trans e11
              have e22 : w2 2 = cI 2 Tx := (s1 2 (by decide)).trans e21
              have C4 := c1_st (i := 4) (v := .int (iZ pl)) rfl C3
              have g102 : ∀ res, Gx q_k33 (d + n + 2) 102 ((4, .int (iZ pl)) :: lv3.filter (x_keep 4), [], hp w2 N) res → Gx q_k33 (d + n + 2) 29 (lv3, [], hp w N) res := fun res hres => by
                refine Gx.run 80 ((Xv.and X0).and s3) (fun X mm => ?_) hres
                obtain ⟨⟨mm1, mm2⟩, mm3⟩ := mm
                rw [hw1] at mm2 mm3 f7
                rw [uH_ne (by decide)] at f7
                simp (disch := first | (refine c1_id ?_; assumption) | (refine c1_st rfl ?_; repeat (first | assumption | refine c1_st rfl ?_)) | omega) [nx_l, nx_r, nx_n, x_st, x_push, x_bin, x_div, x_un, x_dup, x_pop, x_dup2, x_goto, x_ifeq, x_ifne, x_iflt, x_ifge, x_ifgt, x_ifle, x_iceq, x_icne, x_iclt, x_icge, x_icgt, x_icle, x_ifnull, x_ifnonnull, x_ldi, x_lda, x_sti, x_sta, x_iinc, x_gf, x_pf, x_ald, x_ast, x_aln, x_len, x_cl_, x_cv, x_cs, x_rc, x_r0, x_isT, x_oi, x_rv, x_ri, x_ra, Value.category, t33_0, t33_1, t33_3, t33_6, t33_7, t33_10, t33_11, t33_14, t33_17, t33_18, t33_19, t33_20, t33_23, t33_24, t33_27, t33_28, t33_29, t33_30, t33_33, t33_36, t33_37, t33_38, t33_41, t33_42, t33_43, t33_46, t33_47, t33_48, t33_50, t33_51, t33_54, t33_57, t33_58, t33_59, t33_61, t33_64, t33_65, t33_67, t33_70, t33_71, t33_72, t33_73, t33_74, t33_77, t33_78, t33_79, t33_82, t33_83, t33_86, t33_88, t33_89, t33_90, t33_91, t33_94, t33_97, t33_100, t33_101, t33_102, t33_103, t33_105, t33_108, t33_111, t33_112, t33_113, t33_114, t33_116, t33_118, t33_119, t33_122, t33_123, t33_124, t33_125, t33_126, t33_127, t33_130, t33_133, t33_134, t33_135, t33_136, t33_138, t33_141, t33_144, t33_145, t33_148, t33_150, t33_151, t33_153, t33_156, t33_157, t33_158, t33_159, t33_160, t33_162, t33_165, t33_168, t33_169, t33_170, t33_173, t33_176, t33_177, lk_s, hp_get, hp_set, uH_at, uH_ne, uH_upd, uH_swap, iZ_add, iZ_sub, iZ_mul, iZ_neg, iZ_lt, iZ_le, iZ_eq, iZ_div, iZ_of, ix_Z, gZ_map, gZ_mapI, gZ_map', le_0, le_s, sZ_map, sZ_len, bZ_0, bZ_inj, bZ_t, bZ_f, nr_i, nr_0, nr_1, nr_b, ft_i, ft_b, ft_0, ft_1, zl_0, zl_1, zl_3, zl_30, zl_40, zl_41, zl_44, zl_65, zl_97, zl_122, k0, k1, k2, k3, h1, f7, n1, n2, mm1, mm2, mm3, pO, -List.filter_filter, -List.getElem?_map, -List.getD_eq_getElem?_getD]
              have j0 : x_lk ((4, .int (iZ pl)) :: lv3.filter (x_keep 4)) 0 = some (.ref 4) := by rw [lk_s C3]; exact k0
              have j1 : x_lk ((4, .int (iZ pl)) :: lv3.filter (x_keep 4)) 1 = some (.ref 10) := by rw [lk_s C3]; exact k1
              have j2 : x_lk ((4, .int (iZ pl)) :: lv3.filter (x_keep 4)) 2 = some (.int (iZ g)) := by rw [lk_s C3]; exact k2
              have j3 : x_lk ((4, .int (iZ pl)) :: lv3.filter (x_keep 4)) 3 = some (.int (iZ c)) := by rw [lk_s C3]; exact k3
              have j4 : x_lk ((4, .int (iZ pl)) :: lv3.filter (x_keep 4)) 4 = some (.int (iZ pl)) := by rw [lk_s C3]; rfl
              generalize ((4, .int (iZ pl)) :: lv3.filter (x_keep 4) : xL) = lv4 at C4 g102 j0 j1 j2 j3 j4
              by_cases hop : ∃ r2, r = 40 :: r2
              · obtain ⟨r2, rfl⟩ := hop
                dsimp only at ern
                rw [if_pos rfl] at ern
                have Xt := m34y (N := N) (d + n + 1) hN e12 e22 hx.tl
                obtain ⟨w3, hw3⟩ : ∃ w3, w3 = uH w2 1 (pO (p + 1 + 1) l) := ⟨_, rfl⟩
                rw [← hw3] at Xt
                have L3 : LQ w3 7 C b (t ++ (100 + 4 * (c - 97)) :: []) := s2.mv (fun j j0 _ => by rw [hw3, uH_ne (by omega)])
                have F3 : Fr ksF w w3 := F2.tr (by rw [hw3]; exact (Fr.rf _ _).up (by decide))
                have C5 := c1_st (i := 5) (v := .int (iZ 1)) rfl C4
                have L5 : lv33 ((5, .int (iZ 1)) :: lv4.filter (x_keep 5)) g c ((flt C).length + t.length) (4 - ((3 : Nat) : Int)) := ⟨C5, by rw [lk_s C4]; exact j0, by rw [lk_s C4]; exact j1, by rw [lk_s C4]; exact j2, by rw [lk_s C4]; exact j3, by rw [lk_s C4, ← hpl]; exact j4, by rw [lk_s C4]; rfl⟩
                have g116 : ∀ res, Gx q_k33 (d + n + 2) 116 ((5, .int (iZ 1)) :: lv4.filter (x_keep 5), [], hp w3 N) res → Gx q_k33 (d + n + 2) 102 (lv4, [], hp w2 N) res := fun res hres => by
                  refine Gx.run 40 Xt (fun X mm => ?_) hres
                  simp (disch := first | (refine c1_id ?_; assumption) | (refine c1_st rfl ?_; repeat (first | assumption | refine c1_st rfl ?_)) | omega) [nx_l, nx_r, nx_n, x_st, x_push, x_bin, x_div, x_un, x_dup, x_pop, x_dup2, x_goto, x_ifeq, x_ifne, x_iflt, x_ifge, x_ifgt, x_ifle, x_iceq, x_icne, x_iclt, x_icge, x_icgt, x_icle, x_ifnull, x_ifnonnull, x_ldi, x_lda, x_sti, x_sta, x_iinc, x_gf, x_pf, x_ald, x_ast, x_aln, x_len, x_cl_, x_cv, x_cs, x_rc, x_r0, x_isT, x_oi, x_rv, x_ri, x_ra, Value.category, t33_0, t33_1, t33_3, t33_6, t33_7, t33_10, t33_11, t33_14, t33_17, t33_18, t33_19, t33_20, t33_23, t33_24, t33_27, t33_28, t33_29, t33_30, t33_33, t33_36, t33_37, t33_38, t33_41, t33_42, t33_43, t33_46, t33_47, t33_48, t33_50, t33_51, t33_54, t33_57, t33_58, t33_59, t33_61, t33_64, t33_65, t33_67, t33_70, t33_71, t33_72, t33_73, t33_74, t33_77, t33_78, t33_79, t33_82, t33_83, t33_86, t33_88, t33_89, t33_90, t33_91, t33_94, t33_97, t33_100, t33_101, t33_102, t33_103, t33_105, t33_108, t33_111, t33_112, t33_113, t33_114, t33_116, t33_118, t33_119, t33_122, t33_123, t33_124, t33_125, t33_126, t33_127, t33_130, t33_133, t33_134, t33_135, t33_136, t33_138, t33_141, t33_144, t33_145, t33_148, t33_150, t33_151, t33_153, t33_156, t33_157, t33_158, t33_159, t33_160, t33_162, t33_165, t33_168, t33_169, t33_170, t33_173, t33_176, t33_177, lk_s, hp_get, hp_set, uH_at, uH_ne, uH_upd, uH_swap, iZ_add, iZ_sub, iZ_mul, iZ_neg, iZ_lt, iZ_le, iZ_eq, iZ_div, iZ_of, ix_Z, gZ_map, gZ_mapI, gZ_map', le_0, le_s, sZ_map, sZ_len, bZ_0, bZ_inj, bZ_t, bZ_f, nr_i, nr_0, nr_1, nr_b, ft_i, ft_b, ft_0, ft_1, zl_0, zl_1, zl_3, zl_30, zl_40, zl_41, zl_44, zl_65, zl_97, zl_122, j0, j1, e12, mm, pO, -List.filter_filter, -List.getElem?_map, -List.getD_eq_getElem?_getD]
                rcases A33 d hN n IH g c (by omega) hf.1 hf.2 g0 (by omega) t 3 [] r2 (p + 1 + 1) w3 _ (by omega) L3 (by rw [hw3, uH_at]) (by rw [hw3, uH_ne (by decide)]; exact e22) hx.tl.tl L5 with ⟨kk, us, r3, p3, w4, a1, a2, a3, a4, a5, a6, a7⟩ | ⟨a1, p3, w4, a2, a3, a4, a5⟩
                · refine Or.inl ⟨(100 + 4 * (c - 97) + kk) :: us, r3, p3, w4, by rw [ern, a1], by simp only [List.length_cons, List.length_nil] at a2 ⊢; omega, F3.tr a3, ?_, a5, a6, g29 _ (g102 _ (g116 _ a7))⟩
                  rw [show 100 + 4 * (c - 97) + (3 - ((3 : Nat) : Int)) + kk = 100 + 4 * (c - 97) + kk by omega, List.nil_append] at a4
                  exact a4
                · refine Or.inr ⟨fun u r1 z => ?_, p3, w4, F3.tr a2, a3, a4, g29 _ (g102 _ (g116 _ a5))⟩
                  rw [ern] at z
                  cases hA : rdA (rdT n) 3 r2 with
                  | none => rw [hA] at z; cases z
                  | some v =>
                    obtain ⟨k0, ts0, r20⟩ := v
                    rw [hA] at z
                    cases z
                    have := a1 _ _ _ hA
                    simp only [List.length_cons, List.length_nil] at this ⊢
                    omega
              · have Xn := m34n (N := N) (c := 40) (d + n + 1) hN e12 e22 hx.tl (by omega) (by omega) (fun r' z => hop ⟨r', z⟩)
                refine Or.inl ⟨[100 + 4 * (c - 97)], r, p + 1, w2, ?_, by simp; omega, F2, s2, e12, hx.tl, g29 _ (g102 _ (Gx.fin 40 Xn (fun X mm => ?_)))⟩
                · rw [ern]
                  cases r with
                  | nil => rfl
                  | cons dd r1 =>
                    dsimp only
                    rw [if_neg (fun e => hop ⟨r1, by rw [e]⟩)]
                · simp (disch := first | (refine c1_id ?_; assumption) | (refine c1_st rfl ?_; repeat (first | assumption | refine c1_st rfl ?_)) | omega) [nx_l, nx_r, nx_n, x_st, x_push, x_bin, x_div, x_un, x_dup, x_pop, x_dup2, x_goto, x_ifeq, x_ifne, x_iflt, x_ifge, x_ifgt, x_ifle, x_iceq, x_icne, x_iclt, x_icge, x_icgt, x_icle, x_ifnull, x_ifnonnull, x_ldi, x_lda, x_sti, x_sta, x_iinc, x_gf, x_pf, x_ald, x_ast, x_aln, x_len, x_cl_, x_cv, x_cs, x_rc, x_r0, x_isT, x_oi, x_rv, x_ri, x_ra, Value.category, t33_0, t33_1, t33_3, t33_6, t33_7, t33_10, t33_11, t33_14, t33_17, t33_18, t33_19, t33_20, t33_23, t33_24, t33_27, t33_28, t33_29, t33_30, t33_33, t33_36, t33_37, t33_38, t33_41, t33_42, t33_43, t33_46, t33_47, t33_48, t33_50, t33_51, t33_54, t33_57, t33_58, t33_59, t33_61, t33_64, t33_65, t33_67, t33_70, t33_71, t33_72, t33_73, t33_74, t33_77, t33_78, t33_79, t33_82, t33_83, t33_86, t33_88, t33_89, t33_90, t33_91, t33_94, t33_97, t33_100, t33_101, t33_102, t33_103, t33_105, t33_108, t33_111, t33_112, t33_113, t33_114, t33_116, t33_118, t33_119, t33_122, t33_123, t33_124, t33_125, t33_126, t33_127, t33_130, t33_133, t33_134, t33_135, t33_136, t33_138, t33_141, t33_144, t33_145, t33_148, t33_150, t33_151, t33_153, t33_156, t33_157, t33_158, t33_159, t33_160, t33_162, t33_165, t33_168, t33_169, t33_170, t33_173, t33_176, t33_177, lk_s, hp_get, hp_set, uH_at, uH_ne, uH_upd, uH_swap, iZ_add, iZ_sub, iZ_mul, iZ_neg, iZ_lt, iZ_le, iZ_eq, iZ_div, iZ_of, ix_Z, gZ_map, gZ_mapI, gZ_map', le_0, le_s, sZ_map, sZ_len, bZ_0, bZ_inj, bZ_t, bZ_f, nr_i, nr_0, nr_1, nr_b, ft_i, ft_b, ft_0, ft_1, zl_0, zl_1, zl_3, zl_30, zl_40, zl_41, zl_44, zl_65, zl_97, zl_122, j0, j1, e12, mm, pO, -List.filter_filter, -List.getElem?_map, -List.getD_eq_getElem?_getD]
            · have s3 := L1.full (N := N) (d + n + 1) (by omega) (4 * (c - 97)) h4
              refine Or.inr ⟨fun u r1 z => ?_, p + 1, w1, F1, L1.jk, e11, g29 _ (Gx.fin 80 ((Xv.and X0).and s3) (fun X mm => ?_))⟩
              · have hu : 1 ≤ u.length := by
                  rw [ern] at z
                  cases r with
                  | nil => cases z; simp
                  | cons dd r1 =>
                    dsimp only at z
                    split at z
                    · split at z
                      · cases z
                      · cases z; simp
                    · cases z; simp
                omega
              · obtain ⟨⟨mm1, mm2⟩, mm3⟩ := mm
                rw [hw1] at mm2 mm3 f7 ⊢
                rw [uH_ne (by decide)] at f7
                simp (disch := first | (refine c1_id ?_; assumption) | (refine c1_st rfl ?_; repeat (first | assumption | refine c1_st rfl ?_)) | omega) [nx_l, nx_r, nx_n, x_st, x_push, x_bin, x_div, x_un, x_dup, x_pop, x_dup2, x_goto, x_ifeq, x_ifne, x_iflt, x_ifge, x_ifgt, x_ifle, x_iceq, x_icne, x_iclt, x_icge, x_icgt, x_icle, x_ifnull, x_ifnonnull, x_ldi, x_lda, x_sti, x_sta, x_iinc, x_gf, x_pf, x_ald, x_ast, x_aln, x_len, x_cl_, x_cv, x_cs, x_rc, x_r0, x_isT, x_oi, x_rv, x_ri, x_ra, Value.category, t33_0, t33_1, t33_3, t33_6, t33_7, t33_10, t33_11, t33_14, t33_17, t33_18, t33_19, t33_20, t33_23, t33_24, t33_27, t33_28, t33_29, t33_30, t33_33, t33_36, t33_37, t33_38, t33_41, t33_42, t33_43, t33_46, t33_47, t33_48, t33_50, t33_51, t33_54, t33_57, t33_58, t33_59, t33_61, t33_64, t33_65, t33_67, t33_70, t33_71, t33_72, t33_73, t33_74, t33_77, t33_78, t33_79, t33_82, t33_83, t33_86, t33_88, t33_89, t33_90, t33_91, t33_94, t33_97, t33_100, t33_101, t33_102, t33_103, t33_105, t33_108, t33_111, t33_112, t33_113, t33_114, t33_116, t33_118, t33_119, t33_122, t33_123, t33_124, t33_125, t33_126, t33_127, t33_130, t33_133, t33_134, t33_135, t33_136, t33_138, t33_141, t33_144, t33_145, t33_148, t33_150, t33_151, t33_153, t33_156, t33_157, t33_158, t33_159, t33_160, t33_162, t33_165, t33_168, t33_169, t33_170, t33_173, t33_176, t33_177, lk_s, hp_get, hp_set, uH_at, uH_ne, uH_upd, uH_swap, iZ_add, iZ_sub, iZ_mul, iZ_neg, iZ_lt, iZ_le, iZ_eq, iZ_div, iZ_of, ix_Z, gZ_map, gZ_mapI, gZ_map', le_0, le_s, sZ_map, sZ_len, bZ_0, bZ_inj, bZ_t, bZ_f, nr_i, nr_0, nr_1, nr_b, ft_i, ft_b, ft_0, ft_1, zl_0, zl_1, zl_3, zl_30, zl_40, zl_41, zl_44, zl_65, zl_97, zl_122, k0, k1, k2, k3, h1, f7, n1, n2, mm1, mm2, mm3, pO, -List.filter_filter, -List.getElem?_map, -List.getD_eq_getElem?_getD]
          · rw [if_neg hf] at ern
            refine Or.inr ⟨fun u r1 z => (by rw [ern] at z; cases z), p, w, Fr.rf _ _, hL.jk, h1, g29 _ (Gx.fin 60 Xv (fun X mm => ?_))⟩
            by_cases n1 : c < 97
            · simp (disch := first | (refine c1_id ?_; assumption) | (refine c1_st rfl ?_; repeat (first | assumption | refine c1_st rfl ?_)) | omega) [nx_l, nx_r, nx_n, x_st, x_push, x_bin, x_div, x_un, x_dup, x_pop, x_dup2, x_goto, x_ifeq, x_ifne, x_iflt, x_ifge, x_ifgt, x_ifle, x_iceq, x_icne, x_iclt, x_icge, x_icgt, x_icle, x_ifnull, x_ifnonnull, x_ldi, x_lda, x_sti, x_sta, x_iinc, x_gf, x_pf, x_ald, x_ast, x_aln, x_len, x_cl_, x_cv, x_cs, x_rc, x_r0, x_isT, x_oi, x_rv, x_ri, x_ra, Value.category, t33_0, t33_1, t33_3, t33_6, t33_7, t33_10, t33_11, t33_14, t33_17, t33_18, t33_19, t33_20, t33_23, t33_24, t33_27, t33_28, t33_29, t33_30, t33_33, t33_36, t33_37, t33_38, t33_41, t33_42, t33_43, t33_46, t33_47, t33_48, t33_50, t33_51, t33_54, t33_57, t33_58, t33_59, t33_61, t33_64, t33_65, t33_67, t33_70, t33_71, t33_72, t33_73, t33_74, t33_77, t33_78, t33_79, t33_82, t33_83, t33_86, t33_88, t33_89, t33_90, t33_91, t33_94, t33_97, t33_100, t33_101, t33_102, t33_103, t33_105, t33_108, t33_111, t33_112, t33_113, t33_114, t33_116, t33_118, t33_119, t33_122, t33_123, t33_124, t33_125, t33_126, t33_127, t33_130, t33_133, t33_134, t33_135, t33_136, t33_138, t33_141, t33_144, t33_145, t33_148, t33_150, t33_151, t33_153, t33_156, t33_157, t33_158, t33_159, t33_160, t33_162, t33_165, t33_168, t33_169, t33_170, t33_173, t33_176, t33_177, lk_s, hp_get, hp_set, uH_at, uH_ne, uH_upd, uH_swap, iZ_add, iZ_sub, iZ_mul, iZ_neg, iZ_lt, iZ_le, iZ_eq, iZ_div, iZ_of, ix_Z, gZ_map, gZ_mapI, gZ_map', le_0, le_s, sZ_map, sZ_len, bZ_0, bZ_inj, bZ_t, bZ_f, nr_i, nr_0, nr_1, nr_b, ft_i, ft_b, ft_0, ft_1, zl_0, zl_1, zl_3, zl_30, zl_40, zl_41, zl_44, zl_65, zl_97, zl_122, k0, k1, k2, k3, n1, h1, mm, pO, -List.filter_filter, -List.getElem?_map, -List.getD_eq_getElem?_getD]
            · have n2 : ¬ c ≤ 122 := by omega
              simp (disch := first | (refine c1_id ?_; assumption) | (refine c1_st rfl ?_; repeat (first | assumption | refine c1_st rfl ?_)) | omega) [nx_l, nx_r, nx_n, x_st, x_push, x_bin, x_div, x_un, x_dup, x_pop, x_dup2, x_goto, x_ifeq, x_ifne, x_iflt, x_ifge, x_ifgt, x_ifle, x_iceq, x_icne, x_iclt, x_icge, x_icgt, x_icle, x_ifnull, x_ifnonnull, x_ldi, x_lda, x_sti, x_sta, x_iinc, x_gf, x_pf, x_ald, x_ast, x_aln, x_len, x_cl_, x_cv, x_cs, x_rc, x_r0, x_isT, x_oi, x_rv, x_ri, x_ra, Value.category, t33_0, t33_1, t33_3, t33_6, t33_7, t33_10, t33_11, t33_14, t33_17, t33_18, t33_19, t33_20, t33_23, t33_24, t33_27, t33_28, t33_29, t33_30, t33_33, t33_36, t33_37, t33_38, t33_41, t33_42, t33_43, t33_46, t33_47, t33_48, t33_50, t33_51, t33_54, t33_57, t33_58, t33_59, t33_61, t33_64, t33_65, t33_67, t33_70, t33_71, t33_72, t33_73, t33_74, t33_77, t33_78, t33_79, t33_82, t33_83, t33_86, t33_88, t33_89, t33_90, t33_91, t33_94, t33_97, t33_100, t33_101, t33_102, t33_103, t33_105, t33_108, t33_111, t33_112, t33_113, t33_114, t33_116, t33_118, t33_119, t33_122, t33_123, t33_124, t33_125, t33_126, t33_127, t33_130, t33_133, t33_134, t33_135, t33_136, t33_138, t33_141, t33_144, t33_145, t33_148, t33_150, t33_151, t33_153, t33_156, t33_157, t33_158, t33_159, t33_160, t33_162, t33_165, t33_168, t33_169, t33_170, t33_173, t33_176, t33_177, lk_s, hp_get, hp_set, uH_at, uH_ne, uH_upd, uH_swap, iZ_add, iZ_sub, iZ_mul, iZ_neg, iZ_lt, iZ_le, iZ_eq, iZ_div, iZ_of, ix_Z, gZ_map, gZ_mapI, gZ_map', le_0, le_s, sZ_map, sZ_len, bZ_0, bZ_inj, bZ_t, bZ_f, nr_i, nr_0, nr_1, nr_b, ft_i, ft_b, ft_0, ft_1, zl_0, zl_1, zl_3, zl_30, zl_40, zl_41, zl_44, zl_65, zl_97, zl_122, k0, k1, k2, k3, n1, n2, h1, mm, pO, -List.filter_filter, -List.getElem?_map, -List.getD_eq_getElem?_getD]
    have eg : (30 : Int) - ((n + 1 : Nat) : Int) = g := hg.symm
    rcases key with ⟨u, r1, p', w', i1, i2, i3, i4, i5, i6, i7⟩ | ⟨i1, p', w', i2, i3, i4, i5⟩
    · exact Or.inl ⟨u, r1, p', w', i1, i2, i3, i4, i5, i6, by rw [eg]; exact Xc.of rfl (by simp [lg_sl, Value.category]) i7 (jk_le (i3.sub (by decide)) hL.jk i4.jk h1 i5)⟩
    · exact Or.inr ⟨i1, p', w', i2, i3, i4, by rw [eg]; exact Xc.of rfl (by simp [lg_sl, Value.category]) i5 (jk_le (i2.sub (by decide)) hL.jk i3 h1 i4)⟩
end TM
