/-! the reference: is a clause trivial -/
theorem f144_0 : x_fetch q_k144 0 = x_lda 1 0 := rfl
theorem t144_0 (C : xF) (s n : Nat) (z : xS) : x_to q_k144 C s (n + 1) 0 z = x_nx q_k144 C s n ((x_lda 1 0) C z) := x_to_at f144_0 C s n z
theorem f144_1 : x_fetch q_k144 1 = x_st (x_push 2 (.int (0))) := rfl
theorem t144_1 (C : xF) (s n : Nat) (z : xS) : x_to q_k144 C s (n + 1) 1 z = x_nx q_k144 C s n ((x_st (x_push 2 (.int (0)))) C z) := x_to_at f144_1 C s n z
theorem f144_2 : x_fetch q_k144 2 = x_pf 5 8 0 (.int) := rfl
theorem t144_2 (C : xF) (s n : Nat) (z : xS) : x_to q_k144 C s (n + 1) 2 z = x_nx q_k144 C s n ((x_pf 5 8 0 (.int)) C z) := x_to_at f144_2 C s n z
theorem f144_5 : x_fetch q_k144 5 = x_lda 6 0 := rfl
theorem t144_5 (C : xF) (s n : Nat) (z : xS) : x_to q_k144 C s (n + 1) 5 z = x_nx q_k144 C s n ((x_lda 6 0) C z) := x_to_at f144_5 C s n z
theorem f144_6 : x_fetch q_k144 6 = x_ldi 7 1 := rfl
theorem t144_6 (C : xF) (s n : Nat) (z : xS) : x_to q_k144 C s (n + 1) 6 z = x_nx q_k144 C s n ((x_ldi 7 1) C z) := x_to_at f144_6 C s n z
theorem f144_7 : x_fetch q_k144 7 = x_cv 10 134 2 8 := rfl
theorem t144_7 (C : xF) (s n : Nat) (z : xS) : x_to q_k144 C s (n + 1) 7 z = x_nx q_k144 C s n ((x_cv 10 134 2 8) C z) := x_to_at f144_7 C s n z
theorem f144_10 : x_fetch q_k144 10 = x_st (x_ifne 15 13) := rfl
theorem t144_10 (C : xF) (s n : Nat) (z : xS) : x_to q_k144 C s (n + 1) 10 z = x_nx q_k144 C s n ((x_st (x_ifne 15 13)) C z) := x_to_at f144_10 C s n z
theorem f144_13 : x_fetch q_k144 13 = x_st (x_push 14 (.int (0))) := rfl
theorem t144_13 (C : xF) (s n : Nat) (z : xS) : x_to q_k144 C s (n + 1) 13 z = x_nx q_k144 C s n ((x_st (x_push 14 (.int (0)))) C z) := x_to_at f144_13 C s n z
theorem f144_14 : x_fetch q_k144 14 = x_ri (.boolean) := rfl
theorem t144_14 (C : xF) (s n : Nat) (z : xS) : x_to q_k144 C s (n + 1) 14 z = x_nx q_k144 C s n ((x_ri (.boolean)) C z) := x_to_at f144_14 C s n z
theorem f144_15 : x_fetch q_k144 15 = x_st (x_push 16 (.int (0))) := rfl
theorem t144_15 (C : xF) (s n : Nat) (z : xS) : x_to q_k144 C s (n + 1) 15 z = x_nx q_k144 C s n ((x_st (x_push 16 (.int (0)))) C z) := x_to_at f144_15 C s n z
theorem f144_16 : x_fetch q_k144 16 = x_sti 17 2 := rfl
theorem t144_16 (C : xF) (s n : Nat) (z : xS) : x_to q_k144 C s (n + 1) 16 z = x_nx q_k144 C s n ((x_sti 17 2) C z) := x_to_at f144_16 C s n z
theorem f144_17 : x_fetch q_k144 17 = x_lda 18 0 := rfl
theorem t144_17 (C : xF) (s n : Nat) (z : xS) : x_to q_k144 C s (n + 1) 17 z = x_nx q_k144 C s n ((x_lda 18 0) C z) := x_to_at f144_17 C s n z
theorem f144_18 : x_fetch q_k144 18 = x_ldi 19 1 := rfl
theorem t144_18 (C : xF) (s n : Nat) (z : xS) : x_to q_k144 C s (n + 1) 18 z = x_nx q_k144 C s n ((x_ldi 19 1) C z) := x_to_at f144_18 C s n z
theorem f144_19 : x_fetch q_k144 19 = x_st (x_push 20 (.int (0))) := rfl
theorem t144_19 (C : xF) (s n : Nat) (z : xS) : x_to q_k144 C s (n + 1) 19 z = x_nx q_k144 C s n ((x_st (x_push 20 (.int (0)))) C z) := x_to_at f144_19 C s n z
theorem f144_20 : x_fetch q_k144 20 = x_st (x_push 21 (.int (0))) := rfl
theorem t144_20 (C : xF) (s n : Nat) (z : xS) : x_to q_k144 C s (n + 1) 20 z = x_nx q_k144 C s n ((x_st (x_push 21 (.int (0)))) C z) := x_to_at f144_20 C s n z
theorem f144_21 : x_fetch q_k144 21 = x_cv 24 110 4 8 := rfl
theorem t144_21 (C : xF) (s n : Nat) (z : xS) : x_to q_k144 C s (n + 1) 21 z = x_nx q_k144 C s n ((x_cv 24 110 4 8) C z) := x_to_at f144_21 C s n z
theorem f144_24 : x_fetch q_k144 24 = x_st (x_push 25 (.int (0))) := rfl
theorem t144_24 (C : xF) (s n : Nat) (z : xS) : x_to q_k144 C s (n + 1) 24 z = x_nx q_k144 C s n ((x_st (x_push 25 (.int (0)))) C z) := x_to_at f144_24 C s n z
theorem f144_25 : x_fetch q_k144 25 = x_sti 26 3 := rfl
theorem t144_25 (C : xF) (s n : Nat) (z : xS) : x_to q_k144 C s (n + 1) 25 z = x_nx q_k144 C s n ((x_sti 26 3) C z) := x_to_at f144_25 C s n z
theorem f144_26 : x_fetch q_k144 26 = x_ldi 27 3 := rfl
theorem t144_26 (C : xF) (s n : Nat) (z : xS) : x_to q_k144 C s (n + 1) 26 z = x_nx q_k144 C s n ((x_ldi 27 3) C z) := x_to_at f144_26 C s n z
theorem f144_27 : x_fetch q_k144 27 = x_lda 28 0 := rfl
theorem t144_27 (C : xF) (s n : Nat) (z : xS) : x_to q_k144 C s (n + 1) 27 z = x_nx q_k144 C s n ((x_lda 28 0) C z) := x_to_at f144_27 C s n z
theorem f144_28 : x_fetch q_k144 28 = x_gf 31 8 5 := rfl
theorem t144_28 (C : xF) (s n : Nat) (z : xS) : x_to q_k144 C s (n + 1) 28 z = x_nx q_k144 C s n ((x_gf 31 8 5) C z) := x_to_at f144_28 C s n z
theorem f144_31 : x_fetch q_k144 31 = x_ldi 32 1 := rfl
theorem t144_31 (C : xF) (s n : Nat) (z : xS) : x_to q_k144 C s (n + 1) 31 z = x_nx q_k144 C s n ((x_ldi 32 1) C z) := x_to_at f144_31 C s n z
theorem f144_32 : x_fetch q_k144 32 = x_ald 33 0 := rfl
theorem t144_32 (C : xF) (s n : Nat) (z : xS) : x_to q_k144 C s (n + 1) 32 z = x_nx q_k144 C s n ((x_ald 33 0) C z) := x_to_at f144_32 C s n z
theorem f144_33 : x_fetch q_k144 33 = x_st (x_icge 225 36) := rfl
theorem t144_33 (C : xF) (s n : Nat) (z : xS) : x_to q_k144 C s (n + 1) 33 z = x_nx q_k144 C s n ((x_st (x_icge 225 36)) C z) := x_to_at f144_33 C s n z
theorem f144_36 : x_fetch q_k144 36 = x_lda 37 0 := rfl
theorem t144_36 (C : xF) (s n : Nat) (z : xS) : x_to q_k144 C s (n + 1) 36 z = x_nx q_k144 C s n ((x_lda 37 0) C z) := x_to_at f144_36 C s n z
theorem f144_37 : x_fetch q_k144 37 = x_gf 40 8 4 := rfl
theorem t144_37 (C : xF) (s n : Nat) (z : xS) : x_to q_k144 C s (n + 1) 37 z = x_nx q_k144 C s n ((x_gf 40 8 4) C z) := x_to_at f144_37 C s n z
theorem f144_40 : x_fetch q_k144 40 = x_st (x_push 42 (.int (7))) := rfl
theorem t144_40 (C : xF) (s n : Nat) (z : xS) : x_to q_k144 C s (n + 1) 40 z = x_nx q_k144 C s n ((x_st (x_push 42 (.int (7)))) C z) := x_to_at f144_40 C s n z
theorem f144_42 : x_fetch q_k144 42 = x_ldi 43 1 := rfl
theorem t144_42 (C : xF) (s n : Nat) (z : xS) : x_to q_k144 C s (n + 1) 42 z = x_nx q_k144 C s n ((x_ldi 43 1) C z) := x_to_at f144_42 C s n z
theorem f144_43 : x_fetch q_k144 43 = x_st (x_bin 44 (fun a b => a * b)) := rfl
theorem t144_43 (C : xF) (s n : Nat) (z : xS) : x_to q_k144 C s (n + 1) 43 z = x_nx q_k144 C s n ((x_st (x_bin 44 (fun a b => a * b))) C z) := x_to_at f144_43 C s n z
theorem f144_44 : x_fetch q_k144 44 = x_ldi 45 3 := rfl
theorem t144_44 (C : xF) (s n : Nat) (z : xS) : x_to q_k144 C s (n + 1) 44 z = x_nx q_k144 C s n ((x_ldi 45 3) C z) := x_to_at f144_44 C s n z
theorem f144_45 : x_fetch q_k144 45 = x_st (x_bin 46 (fun a b => a + b)) := rfl
theorem t144_45 (C : xF) (s n : Nat) (z : xS) : x_to q_k144 C s (n + 1) 45 z = x_nx q_k144 C s n ((x_st (x_bin 46 (fun a b => a + b))) C z) := x_to_at f144_45 C s n z
theorem f144_46 : x_fetch q_k144 46 = x_ald 47 0 := rfl
theorem t144_46 (C : xF) (s n : Nat) (z : xS) : x_to q_k144 C s (n + 1) 46 z = x_nx q_k144 C s n ((x_ald 47 0) C z) := x_to_at f144_46 C s n z
theorem f144_47 : x_fetch q_k144 47 = x_sti 49 4 := rfl
theorem t144_47 (C : xF) (s n : Nat) (z : xS) : x_to q_k144 C s (n + 1) 47 z = x_nx q_k144 C s n ((x_sti 49 4) C z) := x_to_at f144_47 C s n z
theorem f144_49 : x_fetch q_k144 49 = x_lda 50 0 := rfl
theorem t144_49 (C : xF) (s n : Nat) (z : xS) : x_to q_k144 C s (n + 1) 49 z = x_nx q_k144 C s n ((x_lda 50 0) C z) := x_to_at f144_49 C s n z
theorem f144_50 : x_fetch q_k144 50 = x_gf 53 8 29 := rfl
theorem t144_50 (C : xF) (s n : Nat) (z : xS) : x_to q_k144 C s (n + 1) 50 z = x_nx q_k144 C s n ((x_gf 53 8 29) C z) := x_to_at f144_50 C s n z
theorem f144_53 : x_fetch q_k144 53 = x_ldi 55 4 := rfl
theorem t144_53 (C : xF) (s n : Nat) (z : xS) : x_to q_k144 C s (n + 1) 53 z = x_nx q_k144 C s n ((x_ldi 55 4) C z) := x_to_at f144_53 C s n z
theorem f144_55 : x_fetch q_k144 55 = x_ald 56 0 := rfl
theorem t144_55 (C : xF) (s n : Nat) (z : xS) : x_to q_k144 C s (n + 1) 55 z = x_nx q_k144 C s n ((x_ald 56 0) C z) := x_to_at f144_55 C s n z
theorem f144_56 : x_fetch q_k144 56 = x_st (x_push 58 (.int (99))) := rfl
theorem t144_56 (C : xF) (s n : Nat) (z : xS) : x_to q_k144 C s (n + 1) 56 z = x_nx q_k144 C s n ((x_st (x_push 58 (.int (99)))) C z) := x_to_at f144_56 C s n z
theorem f144_58 : x_fetch q_k144 58 = x_st (x_icne 127 61) := rfl
theorem t144_58 (C : xF) (s n : Nat) (z : xS) : x_to q_k144 C s (n + 1) 58 z = x_nx q_k144 C s n ((x_st (x_icne 127 61)) C z) := x_to_at f144_58 C s n z
theorem f144_61 : x_fetch q_k144 61 = x_lda 62 0 := rfl
theorem t144_61 (C : xF) (s n : Nat) (z : xS) : x_to q_k144 C s (n + 1) 61 z = x_nx q_k144 C s n ((x_lda 62 0) C z) := x_to_at f144_61 C s n z
theorem f144_62 : x_fetch q_k144 62 = x_gf 65 8 8 := rfl
theorem t144_62 (C : xF) (s n : Nat) (z : xS) : x_to q_k144 C s (n + 1) 62 z = x_nx q_k144 C s n ((x_gf 65 8 8) C z) := x_to_at f144_62 C s n z
theorem f144_65 : x_fetch q_k144 65 = x_st (x_push 67 (.int (7))) := rfl
theorem t144_65 (C : xF) (s n : Nat) (z : xS) : x_to q_k144 C s (n + 1) 65 z = x_nx q_k144 C s n ((x_st (x_push 67 (.int (7)))) C z) := x_to_at f144_65 C s n z
theorem f144_67 : x_fetch q_k144 67 = x_ldi 68 1 := rfl
theorem t144_67 (C : xF) (s n : Nat) (z : xS) : x_to q_k144 C s (n + 1) 67 z = x_nx q_k144 C s n ((x_ldi 68 1) C z) := x_to_at f144_67 C s n z
theorem f144_68 : x_fetch q_k144 68 = x_st (x_bin 69 (fun a b => a * b)) := rfl
theorem t144_68 (C : xF) (s n : Nat) (z : xS) : x_to q_k144 C s (n + 1) 68 z = x_nx q_k144 C s n ((x_st (x_bin 69 (fun a b => a * b))) C z) := x_to_at f144_68 C s n z
theorem f144_69 : x_fetch q_k144 69 = x_ldi 70 3 := rfl
theorem t144_69 (C : xF) (s n : Nat) (z : xS) : x_to q_k144 C s (n + 1) 69 z = x_nx q_k144 C s n ((x_ldi 70 3) C z) := x_to_at f144_69 C s n z
theorem f144_70 : x_fetch q_k144 70 = x_st (x_bin 71 (fun a b => a + b)) := rfl
theorem t144_70 (C : xF) (s n : Nat) (z : xS) : x_to q_k144 C s (n + 1) 70 z = x_nx q_k144 C s n ((x_st (x_bin 71 (fun a b => a + b))) C z) := x_to_at f144_70 C s n z
theorem f144_71 : x_fetch q_k144 71 = x_ald 72 1 := rfl
theorem t144_71 (C : xF) (s n : Nat) (z : xS) : x_to q_k144 C s (n + 1) 71 z = x_nx q_k144 C s n ((x_ald 72 1) C z) := x_to_at f144_71 C s n z
theorem f144_72 : x_fetch q_k144 72 = x_st (x_ifne 127 75) := rfl
theorem t144_72 (C : xF) (s n : Nat) (z : xS) : x_to q_k144 C s (n + 1) 72 z = x_nx q_k144 C s n ((x_st (x_ifne 127 75)) C z) := x_to_at f144_72 C s n z
theorem f144_75 : x_fetch q_k144 75 = x_lda 76 0 := rfl
theorem t144_75 (C : xF) (s n : Nat) (z : xS) : x_to q_k144 C s (n + 1) 75 z = x_nx q_k144 C s n ((x_lda 76 0) C z) := x_to_at f144_75 C s n z
theorem f144_76 : x_fetch q_k144 76 = x_ldi 78 4 := rfl
theorem t144_76 (C : xF) (s n : Nat) (z : xS) : x_to q_k144 C s (n + 1) 76 z = x_nx q_k144 C s n ((x_ldi 78 4) C z) := x_to_at f144_76 C s n z
theorem f144_78 : x_fetch q_k144 78 = x_st (x_push 79 (.int (1))) := rfl
theorem t144_78 (C : xF) (s n : Nat) (z : xS) : x_to q_k144 C s (n + 1) 78 z = x_nx q_k144 C s n ((x_st (x_push 79 (.int (1)))) C z) := x_to_at f144_78 C s n z
theorem f144_79 : x_fetch q_k144 79 = x_st (x_bin 80 (fun a b => a + b)) := rfl
theorem t144_79 (C : xF) (s n : Nat) (z : xS) : x_to q_k144 C s (n + 1) 79 z = x_nx q_k144 C s n ((x_st (x_bin 80 (fun a b => a + b))) C z) := x_to_at f144_79 C s n z
theorem f144_80 : x_fetch q_k144 80 = x_cv 83 109 2 8 := rfl
theorem t144_80 (C : xF) (s n : Nat) (z : xS) : x_to q_k144 C s (n + 1) 80 z = x_nx q_k144 C s n ((x_cv 83 109 2 8) C z) := x_to_at f144_80 C s n z
theorem f144_83 : x_fetch q_k144 83 = x_sti 85 5 := rfl
theorem t144_83 (C : xF) (s n : Nat) (z : xS) : x_to q_k144 C s (n + 1) 83 z = x_nx q_k144 C s n ((x_sti 85 5) C z) := x_to_at f144_83 C s n z
theorem f144_85 : x_fetch q_k144 85 = x_ldi 86 2 := rfl
theorem t144_85 (C : xF) (s n : Nat) (z : xS) : x_to q_k144 C s (n + 1) 85 z = x_nx q_k144 C s n ((x_ldi 86 2) C z) := x_to_at f144_85 C s n z
theorem f144_86 : x_fetch q_k144 86 = x_st (x_ifne 121 89) := rfl
theorem t144_86 (C : xF) (s n : Nat) (z : xS) : x_to q_k144 C s (n + 1) 86 z = x_nx q_k144 C s n ((x_st (x_ifne 121 89)) C z) := x_to_at f144_86 C s n z
theorem f144_89 : x_fetch q_k144 89 = x_lda 90 0 := rfl
theorem t144_89 (C : xF) (s n : Nat) (z : xS) : x_to q_k144 C s (n + 1) 89 z = x_nx q_k144 C s n ((x_lda 90 0) C z) := x_to_at f144_89 C s n z
theorem f144_90 : x_fetch q_k144 90 = x_ldi 92 5 := rfl
theorem t144_90 (C : xF) (s n : Nat) (z : xS) : x_to q_k144 C s (n + 1) 90 z = x_nx q_k144 C s n ((x_ldi 92 5) C z) := x_to_at f144_90 C s n z
theorem f144_92 : x_fetch q_k144 92 = x_cv 95 109 2 8 := rfl
theorem t144_92 (C : xF) (s n : Nat) (z : xS) : x_to q_k144 C s (n + 1) 92 z = x_nx q_k144 C s n ((x_cv 95 109 2 8) C z) := x_to_at f144_92 C s n z
theorem f144_95 : x_fetch q_k144 95 = x_ldi 97 5 := rfl
theorem t144_95 (C : xF) (s n : Nat) (z : xS) : x_to q_k144 C s (n + 1) 95 z = x_nx q_k144 C s n ((x_ldi 97 5) C z) := x_to_at f144_95 C s n z
theorem f144_97 : x_fetch q_k144 97 = x_st (x_bin 98 (fun a b => a - b)) := rfl
theorem t144_97 (C : xF) (s n : Nat) (z : xS) : x_to q_k144 C s (n + 1) 97 z = x_nx q_k144 C s n ((x_st (x_bin 98 (fun a b => a - b))) C z) := x_to_at f144_97 C s n z
theorem f144_98 : x_fetch q_k144 98 = x_ldi 100 5 := rfl
theorem t144_98 (C : xF) (s n : Nat) (z : xS) : x_to q_k144 C s (n + 1) 98 z = x_nx q_k144 C s n ((x_ldi 100 5) C z) := x_to_at f144_98 C s n z
theorem f144_100 : x_fetch q_k144 100 = x_ldi 102 4 := rfl
theorem t144_100 (C : xF) (s n : Nat) (z : xS) : x_to q_k144 C s (n + 1) 100 z = x_nx q_k144 C s n ((x_ldi 102 4) C z) := x_to_at f144_100 C s n z
theorem f144_102 : x_fetch q_k144 102 = x_st (x_bin 103 (fun a b => a - b)) := rfl
theorem t144_102 (C : xF) (s n : Nat) (z : xS) : x_to q_k144 C s (n + 1) 102 z = x_nx q_k144 C s n ((x_st (x_bin 103 (fun a b => a - b))) C z) := x_to_at f144_102 C s n z
theorem f144_103 : x_fetch q_k144 103 = x_st (x_push 104 (.int (1))) := rfl
theorem t144_103 (C : xF) (s n : Nat) (z : xS) : x_to q_k144 C s (n + 1) 103 z = x_nx q_k144 C s n ((x_st (x_push 104 (.int (1)))) C z) := x_to_at f144_103 C s n z
theorem f144_104 : x_fetch q_k144 104 = x_st (x_bin 105 (fun a b => a - b)) := rfl
theorem t144_104 (C : xF) (s n : Nat) (z : xS) : x_to q_k144 C s (n + 1) 104 z = x_nx q_k144 C s n ((x_st (x_bin 105 (fun a b => a - b))) C z) := x_to_at f144_104 C s n z
theorem f144_105 : x_fetch q_k144 105 = x_st (x_icne 125 108) := rfl
theorem t144_105 (C : xF) (s n : Nat) (z : xS) : x_to q_k144 C s (n + 1) 105 z = x_nx q_k144 C s n ((x_st (x_icne 125 108)) C z) := x_to_at f144_105 C s n z
theorem f144_108 : x_fetch q_k144 108 = x_lda 109 0 := rfl
theorem t144_108 (C : xF) (s n : Nat) (z : xS) : x_to q_k144 C s (n + 1) 108 z = x_nx q_k144 C s n ((x_lda 109 0) C z) := x_to_at f144_108 C s n z
theorem f144_109 : x_fetch q_k144 109 = x_ldi 111 4 := rfl
theorem t144_109 (C : xF) (s n : Nat) (z : xS) : x_to q_k144 C s (n + 1) 109 z = x_nx q_k144 C s n ((x_ldi 111 4) C z) := x_to_at f144_109 C s n z
theorem f144_111 : x_fetch q_k144 111 = x_st (x_push 112 (.int (1))) := rfl
theorem t144_111 (C : xF) (s n : Nat) (z : xS) : x_to q_k144 C s (n + 1) 111 z = x_nx q_k144 C s n ((x_st (x_push 112 (.int (1)))) C z) := x_to_at f144_111 C s n z
theorem f144_112 : x_fetch q_k144 112 = x_st (x_bin 113 (fun a b => a + b)) := rfl
theorem t144_112 (C : xF) (s n : Nat) (z : xS) : x_to q_k144 C s (n + 1) 112 z = x_nx q_k144 C s n ((x_st (x_bin 113 (fun a b => a + b))) C z) := x_to_at f144_112 C s n z
theorem f144_113 : x_fetch q_k144 113 = x_ldi 115 5 := rfl
theorem t144_113 (C : xF) (s n : Nat) (z : xS) : x_to q_k144 C s (n + 1) 113 z = x_nx q_k144 C s n ((x_ldi 115 5) C z) := x_to_at f144_113 C s n z
theorem f144_115 : x_fetch q_k144 115 = x_cv 118 129 3 8 := rfl
theorem t144_115 (C : xF) (s n : Nat) (z : xS) : x_to q_k144 C s (n + 1) 115 z = x_nx q_k144 C s n ((x_cv 118 129 3 8) C z) := x_to_at f144_115 C s n z
theorem f144_118 : x_fetch q_k144 118 = x_st (x_ifeq 125 121) := rfl
theorem t144_118 (C : xF) (s n : Nat) (z : xS) : x_to q_k144 C s (n + 1) 118 z = x_nx q_k144 C s n ((x_st (x_ifeq 125 121)) C z) := x_to_at f144_118 C s n z
theorem f144_121 : x_fetch q_k144 121 = x_st (x_push 122 (.int (1))) := rfl
theorem t144_121 (C : xF) (s n : Nat) (z : xS) : x_to q_k144 C s (n + 1) 121 z = x_nx q_k144 C s n ((x_st (x_push 122 (.int (1)))) C z) := x_to_at f144_121 C s n z
theorem f144_122 : x_fetch q_k144 122 = x_st (x_goto 126) := rfl
theorem t144_122 (C : xF) (s n : Nat) (z : xS) : x_to q_k144 C s (n + 1) 122 z = x_nx q_k144 C s n ((x_st (x_goto 126)) C z) := x_to_at f144_122 C s n z
theorem f144_125 : x_fetch q_k144 125 = x_st (x_push 126 (.int (0))) := rfl
theorem t144_125 (C : xF) (s n : Nat) (z : xS) : x_to q_k144 C s (n + 1) 125 z = x_nx q_k144 C s n ((x_st (x_push 126 (.int (0)))) C z) := x_to_at f144_125 C s n z
theorem f144_126 : x_fetch q_k144 126 = x_sti 127 2 := rfl
theorem t144_126 (C : xF) (s n : Nat) (z : xS) : x_to q_k144 C s (n + 1) 126 z = x_nx q_k144 C s n ((x_sti 127 2) C z) := x_to_at f144_126 C s n z
theorem f144_127 : x_fetch q_k144 127 = x_st (x_push 128 (.int (0))) := rfl
theorem t144_127 (C : xF) (s n : Nat) (z : xS) : x_to q_k144 C s (n + 1) 127 z = x_nx q_k144 C s n ((x_st (x_push 128 (.int (0)))) C z) := x_to_at f144_127 C s n z
theorem f144_128 : x_fetch q_k144 128 = x_sti 130 5 := rfl
theorem t144_128 (C : xF) (s n : Nat) (z : xS) : x_to q_k144 C s (n + 1) 128 z = x_nx q_k144 C s n ((x_sti 130 5) C z) := x_to_at f144_128 C s n z
theorem f144_130 : x_fetch q_k144 130 = x_ldi 132 5 := rfl
theorem t144_130 (C : xF) (s n : Nat) (z : xS) : x_to q_k144 C s (n + 1) 130 z = x_nx q_k144 C s n ((x_ldi 132 5) C z) := x_to_at f144_130 C s n z
theorem f144_132 : x_fetch q_k144 132 = x_ldi 133 3 := rfl
theorem t144_132 (C : xF) (s n : Nat) (z : xS) : x_to q_k144 C s (n + 1) 132 z = x_nx q_k144 C s n ((x_ldi 133 3) C z) := x_to_at f144_132 C s n z
theorem f144_133 : x_fetch q_k144 133 = x_st (x_icge 219 136) := rfl
theorem t144_133 (C : xF) (s n : Nat) (z : xS) : x_to q_k144 C s (n + 1) 133 z = x_nx q_k144 C s n ((x_st (x_icge 219 136)) C z) := x_to_at f144_133 C s n z
theorem f144_136 : x_fetch q_k144 136 = x_lda 137 0 := rfl
theorem t144_136 (C : xF) (s n : Nat) (z : xS) : x_to q_k144 C s (n + 1) 136 z = x_nx q_k144 C s n ((x_lda 137 0) C z) := x_to_at f144_136 C s n z
theorem f144_137 : x_fetch q_k144 137 = x_gf 140 8 4 := rfl
theorem t144_137 (C : xF) (s n : Nat) (z : xS) : x_to q_k144 C s (n + 1) 137 z = x_nx q_k144 C s n ((x_gf 140 8 4) C z) := x_to_at f144_137 C s n z
theorem f144_140 : x_fetch q_k144 140 = x_st (x_push 142 (.int (7))) := rfl
theorem t144_140 (C : xF) (s n : Nat) (z : xS) : x_to q_k144 C s (n + 1) 140 z = x_nx q_k144 C s n ((x_st (x_push 142 (.int (7)))) C z) := x_to_at f144_140 C s n z
theorem f144_142 : x_fetch q_k144 142 = x_ldi 143 1 := rfl
theorem t144_142 (C : xF) (s n : Nat) (z : xS) : x_to q_k144 C s (n + 1) 142 z = x_nx q_k144 C s n ((x_ldi 143 1) C z) := x_to_at f144_142 C s n z
theorem f144_143 : x_fetch q_k144 143 = x_st (x_bin 144 (fun a b => a * b)) := rfl
theorem t144_143 (C : xF) (s n : Nat) (z : xS) : x_to q_k144 C s (n + 1) 143 z = x_nx q_k144 C s n ((x_st (x_bin 144 (fun a b => a * b))) C z) := x_to_at f144_143 C s n z
theorem f144_144 : x_fetch q_k144 144 = x_ldi 146 5 := rfl
theorem t144_144 (C : xF) (s n : Nat) (z : xS) : x_to q_k144 C s (n + 1) 144 z = x_nx q_k144 C s n ((x_ldi 146 5) C z) := x_to_at f144_144 C s n z
theorem f144_146 : x_fetch q_k144 146 = x_st (x_bin 147 (fun a b => a + b)) := rfl
theorem t144_146 (C : xF) (s n : Nat) (z : xS) : x_to q_k144 C s (n + 1) 146 z = x_nx q_k144 C s n ((x_st (x_bin 147 (fun a b => a + b))) C z) := x_to_at f144_146 C s n z
theorem f144_147 : x_fetch q_k144 147 = x_ald 148 0 := rfl
theorem t144_147 (C : xF) (s n : Nat) (z : xS) : x_to q_k144 C s (n + 1) 147 z = x_nx q_k144 C s n ((x_ald 148 0) C z) := x_to_at f144_147 C s n z
set_option maxRecDepth 20000 in
theorem f144_148 : x_fetch q_k144 148 = x_sti 150 6 := rfl
theorem t144_148 (C : xF) (s n : Nat) (z : xS) : x_to q_k144 C s (n + 1) 148 z = x_nx q_k144 C s n ((x_sti 150 6) C z) := x_to_at f144_148 C s n z
set_option maxRecDepth 20000 in
theorem f144_150 : x_fetch q_k144 150 = x_ldi 151 2 := rfl
theorem t144_150 (C : xF) (s n : Nat) (z : xS) : x_to q_k144 C s (n + 1) 150 z = x_nx q_k144 C s n ((x_ldi 151 2) C z) := x_to_at f144_150 C s n z
set_option maxRecDepth 20000 in
theorem f144_151 : x_fetch q_k144 151 = x_st (x_ifne 207 154) := rfl
theorem t144_151 (C : xF) (s n : Nat) (z : xS) : x_to q_k144 C s (n + 1) 151 z = x_nx q_k144 C s n ((x_st (x_ifne 207 154)) C z) := x_to_at f144_151 C s n z
set_option maxRecDepth 20000 in
theorem f144_154 : x_fetch q_k144 154 = x_lda 155 0 := rfl
theorem t144_154 (C : xF) (s n : Nat) (z : xS) : x_to q_k144 C s (n + 1) 154 z = x_nx q_k144 C s n ((x_lda 155 0) C z) := x_to_at f144_154 C s n z
set_option maxRecDepth 20000 in
theorem f144_155 : x_fetch q_k144 155 = x_gf 158 8 8 := rfl
theorem t144_155 (C : xF) (s n : Nat) (z : xS) : x_to q_k144 C s (n + 1) 155 z = x_nx q_k144 C s n ((x_gf 158 8 8) C z) := x_to_at f144_155 C s n z
set_option maxRecDepth 20000 in
theorem f144_158 : x_fetch q_k144 158 = x_st (x_push 160 (.int (7))) := rfl
theorem t144_158 (C : xF) (s n : Nat) (z : xS) : x_to q_k144 C s (n + 1) 158 z = x_nx q_k144 C s n ((x_st (x_push 160 (.int (7)))) C z) := x_to_at f144_158 C s n z
set_option maxRecDepth 20000 in
theorem f144_160 : x_fetch q_k144 160 = x_ldi 161 1 := rfl
theorem t144_160 (C : xF) (s n : Nat) (z : xS) : x_to q_k144 C s (n + 1) 160 z = x_nx q_k144 C s n ((x_ldi 161 1) C z) := x_to_at f144_160 C s n z
set_option maxRecDepth 20000 in
theorem f144_161 : x_fetch q_k144 161 = x_st (x_bin 162 (fun a b => a * b)) := rfl
theorem t144_161 (C : xF) (s n : Nat) (z : xS) : x_to q_k144 C s (n + 1) 161 z = x_nx q_k144 C s n ((x_st (x_bin 162 (fun a b => a * b))) C z) := x_to_at f144_161 C s n z
set_option maxRecDepth 20000 in
theorem f144_162 : x_fetch q_k144 162 = x_ldi 164 5 := rfl
theorem t144_162 (C : xF) (s n : Nat) (z : xS) : x_to q_k144 C s (n + 1) 162 z = x_nx q_k144 C s n ((x_ldi 164 5) C z) := x_to_at f144_162 C s n z
set_option maxRecDepth 20000 in
theorem f144_164 : x_fetch q_k144 164 = x_st (x_bin 165 (fun a b => a + b)) := rfl
theorem t144_164 (C : xF) (s n : Nat) (z : xS) : x_to q_k144 C s (n + 1) 164 z = x_nx q_k144 C s n ((x_st (x_bin 165 (fun a b => a + b))) C z) := x_to_at f144_164 C s n z
set_option maxRecDepth 20000 in
theorem f144_165 : x_fetch q_k144 165 = x_ald 166 1 := rfl
theorem t144_165 (C : xF) (s n : Nat) (z : xS) : x_to q_k144 C s (n + 1) 165 z = x_nx q_k144 C s n ((x_ald 166 1) C z) := x_to_at f144_165 C s n z
set_option maxRecDepth 20000 in
theorem f144_166 : x_fetch q_k144 166 = x_lda 167 0 := rfl
theorem t144_166 (C : xF) (s n : Nat) (z : xS) : x_to q_k144 C s (n + 1) 166 z = x_nx q_k144 C s n ((x_lda 167 0) C z) := x_to_at f144_166 C s n z
set_option maxRecDepth 20000 in
theorem f144_167 : x_fetch q_k144 167 = x_gf 170 8 8 := rfl
theorem t144_167 (C : xF) (s n : Nat) (z : xS) : x_to q_k144 C s (n + 1) 167 z = x_nx q_k144 C s n ((x_gf 170 8 8) C z) := x_to_at f144_167 C s n z
set_option maxRecDepth 20000 in
theorem f144_170 : x_fetch q_k144 170 = x_st (x_push 172 (.int (7))) := rfl
theorem t144_170 (C : xF) (s n : Nat) (z : xS) : x_to q_k144 C s (n + 1) 170 z = x_nx q_k144 C s n ((x_st (x_push 172 (.int (7)))) C z) := x_to_at f144_170 C s n z
set_option maxRecDepth 20000 in
theorem f144_172 : x_fetch q_k144 172 = x_ldi 173 1 := rfl
theorem t144_172 (C : xF) (s n : Nat) (z : xS) : x_to q_k144 C s (n + 1) 172 z = x_nx q_k144 C s n ((x_ldi 173 1) C z) := x_to_at f144_172 C s n z
set_option maxRecDepth 20000 in
theorem f144_173 : x_fetch q_k144 173 = x_st (x_bin 174 (fun a b => a * b)) := rfl
theorem t144_173 (C : xF) (s n : Nat) (z : xS) : x_to q_k144 C s (n + 1) 173 z = x_nx q_k144 C s n ((x_st (x_bin 174 (fun a b => a * b))) C z) := x_to_at f144_173 C s n z
set_option maxRecDepth 20000 in
theorem f144_174 : x_fetch q_k144 174 = x_ldi 175 3 := rfl
theorem t144_174 (C : xF) (s n : Nat) (z : xS) : x_to q_k144 C s (n + 1) 174 z = x_nx q_k144 C s n ((x_ldi 175 3) C z) := x_to_at f144_174 C s n z
set_option maxRecDepth 20000 in
theorem f144_175 : x_fetch q_k144 175 = x_st (x_bin 176 (fun a b => a + b)) := rfl
theorem t144_175 (C : xF) (s n : Nat) (z : xS) : x_to q_k144 C s (n + 1) 175 z = x_nx q_k144 C s n ((x_st (x_bin 176 (fun a b => a + b))) C z) := x_to_at f144_175 C s n z
set_option maxRecDepth 20000 in
theorem f144_176 : x_fetch q_k144 176 = x_ald 177 1 := rfl
theorem t144_176 (C : xF) (s n : Nat) (z : xS) : x_to q_k144 C s (n + 1) 176 z = x_nx q_k144 C s n ((x_ald 177 1) C z) := x_to_at f144_176 C s n z
set_option maxRecDepth 20000 in
theorem f144_177 : x_fetch q_k144 177 = x_st (x_iceq 211 180) := rfl
theorem t144_177 (C : xF) (s n : Nat) (z : xS) : x_to q_k144 C s (n + 1) 177 z = x_nx q_k144 C s n ((x_st (x_iceq 211 180)) C z) := x_to_at f144_177 C s n z
set_option maxRecDepth 20000 in
theorem f144_180 : x_fetch q_k144 180 = x_lda 181 0 := rfl
theorem t144_180 (C : xF) (s n : Nat) (z : xS) : x_to q_k144 C s (n + 1) 180 z = x_nx q_k144 C s n ((x_lda 181 0) C z) := x_to_at f144_180 C s n z
set_option maxRecDepth 20000 in
theorem f144_181 : x_fetch q_k144 181 = x_ldi 182 1 := rfl
theorem t144_181 (C : xF) (s n : Nat) (z : xS) : x_to q_k144 C s (n + 1) 181 z = x_nx q_k144 C s n ((x_ldi 182 1) C z) := x_to_at f144_181 C s n z
set_option maxRecDepth 20000 in
theorem f144_182 : x_fetch q_k144 182 = x_ldi 184 5 := rfl
theorem t144_182 (C : xF) (s n : Nat) (z : xS) : x_to q_k144 C s (n + 1) 182 z = x_nx q_k144 C s n ((x_ldi 184 5) C z) := x_to_at f144_182 C s n z
set_option maxRecDepth 20000 in
theorem f144_184 : x_fetch q_k144 184 = x_cv 187 126 3 8 := rfl
theorem t144_184 (C : xF) (s n : Nat) (z : xS) : x_to q_k144 C s (n + 1) 184 z = x_nx q_k144 C s n ((x_cv 187 126 3 8) C z) := x_to_at f144_184 C s n z
set_option maxRecDepth 20000 in
theorem f144_187 : x_fetch q_k144 187 = x_lda 188 0 := rfl
theorem t144_187 (C : xF) (s n : Nat) (z : xS) : x_to q_k144 C s (n + 1) 187 z = x_nx q_k144 C s n ((x_lda 188 0) C z) := x_to_at f144_187 C s n z
set_option maxRecDepth 20000 in
theorem f144_188 : x_fetch q_k144 188 = x_ldi 189 1 := rfl
theorem t144_188 (C : xF) (s n : Nat) (z : xS) : x_to q_k144 C s (n + 1) 188 z = x_nx q_k144 C s n ((x_ldi 189 1) C z) := x_to_at f144_188 C s n z
set_option maxRecDepth 20000 in
theorem f144_189 : x_fetch q_k144 189 = x_ldi 190 3 := rfl
theorem t144_189 (C : xF) (s n : Nat) (z : xS) : x_to q_k144 C s (n + 1) 189 z = x_nx q_k144 C s n ((x_ldi 190 3) C z) := x_to_at f144_189 C s n z
set_option maxRecDepth 20000 in
theorem f144_190 : x_fetch q_k144 190 = x_cv 193 126 3 8 := rfl
theorem t144_190 (C : xF) (s n : Nat) (z : xS) : x_to q_k144 C s (n + 1) 190 z = x_nx q_k144 C s n ((x_cv 193 126 3 8) C z) := x_to_at f144_190 C s n z
set_option maxRecDepth 20000 in
theorem f144_193 : x_fetch q_k144 193 = x_st (x_icne 211 196) := rfl
theorem t144_193 (C : xF) (s n : Nat) (z : xS) : x_to q_k144 C s (n + 1) 193 z = x_nx q_k144 C s n ((x_st (x_icne 211 196)) C z) := x_to_at f144_193 C s n z
set_option maxRecDepth 20000 in
theorem f144_196 : x_fetch q_k144 196 = x_lda 197 0 := rfl
theorem t144_196 (C : xF) (s n : Nat) (z : xS) : x_to q_k144 C s (n + 1) 196 z = x_nx q_k144 C s n ((x_lda 197 0) C z) := x_to_at f144_196 C s n z
set_option maxRecDepth 20000 in
theorem f144_197 : x_fetch q_k144 197 = x_ldi 199 4 := rfl
theorem t144_197 (C : xF) (s n : Nat) (z : xS) : x_to q_k144 C s (n + 1) 197 z = x_nx q_k144 C s n ((x_ldi 199 4) C z) := x_to_at f144_197 C s n z
set_option maxRecDepth 20000 in
theorem f144_199 : x_fetch q_k144 199 = x_ldi 201 6 := rfl
theorem t144_199 (C : xF) (s n : Nat) (z : xS) : x_to q_k144 C s (n + 1) 199 z = x_nx q_k144 C s n ((x_ldi 201 6) C z) := x_to_at f144_199 C s n z
set_option maxRecDepth 20000 in
theorem f144_201 : x_fetch q_k144 201 = x_cv 204 129 3 8 := rfl
theorem t144_201 (C : xF) (s n : Nat) (z : xS) : x_to q_k144 C s (n + 1) 201 z = x_nx q_k144 C s n ((x_cv 204 129 3 8) C z) := x_to_at f144_201 C s n z
set_option maxRecDepth 20000 in
theorem f144_204 : x_fetch q_k144 204 = x_st (x_ifeq 211 207) := rfl
theorem t144_204 (C : xF) (s n : Nat) (z : xS) : x_to q_k144 C s (n + 1) 204 z = x_nx q_k144 C s n ((x_st (x_ifeq 211 207)) C z) := x_to_at f144_204 C s n z
set_option maxRecDepth 20000 in
theorem f144_207 : x_fetch q_k144 207 = x_st (x_push 208 (.int (1))) := rfl
theorem t144_207 (C : xF) (s n : Nat) (z : xS) : x_to q_k144 C s (n + 1) 207 z = x_nx q_k144 C s n ((x_st (x_push 208 (.int (1)))) C z) := x_to_at f144_207 C s n z
set_option maxRecDepth 20000 in
theorem f144_208 : x_fetch q_k144 208 = x_st (x_goto 212) := rfl
theorem t144_208 (C : xF) (s n : Nat) (z : xS) : x_to q_k144 C s (n + 1) 208 z = x_nx q_k144 C s n ((x_st (x_goto 212)) C z) := x_to_at f144_208 C s n z
set_option maxRecDepth 20000 in
theorem f144_211 : x_fetch q_k144 211 = x_st (x_push 212 (.int (0))) := rfl
theorem t144_211 (C : xF) (s n : Nat) (z : xS) : x_to q_k144 C s (n + 1) 211 z = x_nx q_k144 C s n ((x_st (x_push 212 (.int (0)))) C z) := x_to_at f144_211 C s n z
set_option maxRecDepth 20000 in
theorem f144_212 : x_fetch q_k144 212 = x_sti 213 2 := rfl
theorem t144_212 (C : xF) (s n : Nat) (z : xS) : x_to q_k144 C s (n + 1) 212 z = x_nx q_k144 C s n ((x_sti 213 2) C z) := x_to_at f144_212 C s n z
set_option maxRecDepth 20000 in
theorem f144_213 : x_fetch q_k144 213 = x_iinc 216 5 (1) := rfl
theorem t144_213 (C : xF) (s n : Nat) (z : xS) : x_to q_k144 C s (n + 1) 213 z = x_nx q_k144 C s n ((x_iinc 216 5 (1)) C z) := x_to_at f144_213 C s n z
set_option maxRecDepth 20000 in
theorem f144_216 : x_fetch q_k144 216 = x_st (x_goto 130) := rfl
theorem t144_216 (C : xF) (s n : Nat) (z : xS) : x_to q_k144 C s (n + 1) 216 z = x_nx q_k144 C s n ((x_st (x_goto 130)) C z) := x_to_at f144_216 C s n z
set_option maxRecDepth 20000 in
theorem f144_219 : x_fetch q_k144 219 = x_iinc 222 3 (1) := rfl
theorem t144_219 (C : xF) (s n : Nat) (z : xS) : x_to q_k144 C s (n + 1) 219 z = x_nx q_k144 C s n ((x_iinc 222 3 (1)) C z) := x_to_at f144_219 C s n z
set_option maxRecDepth 20000 in
theorem f144_222 : x_fetch q_k144 222 = x_st (x_goto 26) := rfl
theorem t144_222 (C : xF) (s n : Nat) (z : xS) : x_to q_k144 C s (n + 1) 222 z = x_nx q_k144 C s n ((x_st (x_goto 26)) C z) := x_to_at f144_222 C s n z
set_option maxRecDepth 20000 in
theorem f144_225 : x_fetch q_k144 225 = x_ldi 226 2 := rfl
theorem t144_225 (C : xF) (s n : Nat) (z : xS) : x_to q_k144 C s (n + 1) 225 z = x_nx q_k144 C s n ((x_ldi 226 2) C z) := x_to_at f144_225 C s n z
set_option maxRecDepth 20000 in
theorem f144_226 : x_fetch q_k144 226 = x_ri (.boolean) := rfl
theorem t144_226 (C : xF) (s n : Nat) (z : xS) : x_to q_k144 C s (n + 1) 226 z = x_nx q_k144 C s n ((x_ri (.boolean)) C z) := x_to_at f144_226 C s n z
def eqS (A : List Int) : Bool := decide (A.getD 0 0 = 99 ∧ tm A 1 = tm A (1 + (tm A 1).length))
def opS (D : List (Int × List Int)) (k q : Nat) : Bool := decide ((lC D q).1 ≠ (lC D k).1 ∧ (lC D q).2 = (lC D k).2)
def trI (D : List (Int × List Int)) (k : Nat) : Nat → Nat → Bool → Bool
  | 0, _, s => s
  | r + 1, q, s => trI D k r (q + 1) (s || opS D k q)
def trO (D : List (Int × List Int)) : Nat → Nat → Bool → Bool
  | 0, _, s => s
  | r + 1, k, s => trO D r (k + 1) (trI D k k 0 (s || (decide ((lC D k).1 = 0) && eqS (lC D k).2)))
section TV
variable {w : Nat → xC} {N : Nat} {m : Nat → Int} {x : Nat → List Int} {D : List (Int × List Int)} {c : Int}
theorem l144i (d : Nat) (hN : 53 ≤ N) (h : RO w m x) (hO : SOK (x 45)) (hD : RC c D (x 30) (x 29) (x 33)) (gD : gC D) (hL : LD 0 D (x 45)) (k : Nat) (hk : k < D.length) : ∀ (r q : Nat) (s : Bool) (lv : xL), q + r = k → c1 lv → x_lk lv 0 = some (.ref 30) → x_lk lv 1 = some (.int (iZ c)) → x_lk lv 2 = some (.int (iZ (bZ s))) → x_lk lv 3 = some (.int (iZ (k : Int))) → x_lk lv 4 = some (.int (iZ (stC D k : Int))) → x_lk lv 5 = some (.int (iZ (q : Int))) → ∃ lv', c1 lv' ∧ x_lk lv' 0 = some (.ref 30) ∧ x_lk lv' 1 = some (.int (iZ c)) ∧ x_lk lv' 2 = some (.int (iZ (bZ (trI D k r q s)))) ∧ x_lk lv' 3 = some (.int (iZ (k : Int))) ∧ ∀ res, Gx q_k144 (d + 3) 219 (lv', [], hp w N) res → Gx q_k144 (d + 3) 130 (lv, [], hp w N) res := by
  obtain ⟨a1, a2, a3, a4, a5, a6, a7, a8, a9⟩ := id hD
  have hm := h.1
  have h29 : w 29 = cI 0 (x 29) := (h.2 29 (by decide) (by decide)).1
  have h33 : w 33 = cI 1 (x 33) := (h.2 33 (by decide) (by decide)).1
  have h45 : w 45 = cI 0 (x 45) := (h.2 45 (by decide) (by decide)).1
  have n45 : (x 45).length = 160 := (h.2 45 (by decide) (by decide)).2
  have gD2 := gD.2.1
  have hTk := (gD.2.2 _ (lC_mem hk)).2.1
  have atk := hL.at0 n45 (by omega) hk hTk
  rw [Int.zero_add] at atk
  have kb : (k : Int) < 6 := by omega
  intro r
  induction r with
  | zero =>
    intro q s lv hq hc l0 l1 l2 l3 l4 l5
    have ek : q = k := by omega
    subst ek
    refine ⟨lv, hc, l0, l1, l2, l3, fun res hg => Gx.run 20 Cs.tt (fun K _ => ?_) hg⟩
    simp (disch := first | (refine c1_id ?_; assumption) | (refine c1_st rfl ?_; repeat (first | assumption | refine c1_st rfl ?_)) | omega) [nx_l, nx_r, nx_n, x_st, x_push, x_bin, x_div, x_un, x_dup, x_pop, x_dup2, x_goto, x_ifeq, x_ifne, x_iflt, x_ifge, x_ifgt, x_ifle, x_iceq, x_icne, x_iclt, x_icge, x_icgt, x_icle, x_ifnull, x_ifnonnull, x_ldi, x_lda, x_sti, x_sta, x_iinc, x_gf, x_pf, x_ald, x_ast, x_aln, x_len, x_cl_, x_cv, x_cs, x_rc, x_r0, x_isT, x_oi, x_rv, x_ri, x_ra, Value.category, t144_0, t144_1, t144_2, t144_5, t144_6, t144_7, t144_10, t144_13, t144_14, t144_15, t144_16, t144_17, t144_18, t144_19, t144_20, t144_21, t144_24, t144_25, t144_26, t144_27, t144_28, t144_31, t144_32, t144_33, t144_36, t144_37, t144_40, t144_42, t144_43, t144_44, t144_45, t144_46, t144_47, t144_49, t144_50, t144_53, t144_55, t144_56, t144_58, t144_61, t144_62, t144_65, t144_67, t144_68, t144_69, t144_70, t144_71, t144_72, t144_75, t144_76, t144_78, t144_79, t144_80, t144_83, t144_85, t144_86, t144_89, t144_90, t144_92, t144_95, t144_97, t144_98, t144_100, t144_102, t144_103, t144_104, t144_105, t144_108, t144_109, t144_111, t144_112, t144_113, t144_115, t144_118, t144_121, t144_122, t144_125, t144_126, t144_127, t144_128, t144_130, t144_132, t144_133, t144_136, t144_137, t144_140, t144_142, t144_143, t144_144, t144_146, t144_147, t144_148, t144_150, t144_151, t144_154, t144_155, t144_158, t144_160, t144_161, t144_162, t144_164, t144_165, t144_166, t144_167, t144_170, t144_172, t144_173, t144_174, t144_175, t144_176, t144_177, t144_180, t144_181, t144_182, t144_184, t144_187, t144_188, t144_189, t144_190, t144_193, t144_196, t144_197, t144_199, t144_201, t144_204, t144_207, t144_208, t144_211, t144_212, t144_213, t144_216, t144_219, t144_222, t144_225, t144_226, lk_s, hp_get, hp_set, uH_at, uH_ne, uH_upd, uH_swap, iZ_add, iZ_sub, iZ_mul, iZ_neg, iZ_lt, iZ_le, iZ_eq, iZ_div, iZ_of, ix_Z, gZ_map, gZ_mapI, gZ_map', le_0, le_s, sZ_map, sZ_len, bZ_0, bZ_inj, bZ_t, bZ_f, nr_i, nr_0, nr_1, nr_b, ft_i, ft_b, ft_0, ft_1, zl_0, zl_1, zl_7, zl_99, mF_len, mg_0, mg_1, mg_2, mg_3, mg_4, mg_5, mg_6, mg_7, mg_8, mg_9, mg_10, mg_11, mg_12, mg_13, mg_14, mg_15, mg_16, mg_17, mg_18, mg_19, mg_20, mg_21, mg_22, mg_23, mg_24, mg_25, mg_26, mg_27, mg_28, mg_29, mg_30, mg_31, mg_32, mg_33, mg_34, mg_35, mg_36, mg_37, mg_38, ms_0, ms_1, ms_2, ms_13, ms_14, ms_15, ms_16, ms_21, ms_22, ms_23, ms_24, ms_28, ms_36, ms_37, ms_38, st_at, st_ne, st_st, st_swap, l0, l1, l3, l5, -List.filter_filter, -List.getElem?_map, -List.getD_eq_getElem?_getD]
  | succ r ih =>
    intro q s lv hq hc l0 l1 l2 l3 l4 l5
    have hqD : q < D.length := by omega
    have b1 : ¬ (k : Int) ≤ (q : Int) := by omega
    have qb : (q : Int) < 6 := by omega
    have e8 := a8 q (by omega)
    obtain ⟨e9, s9⟩ := a9 q hqD
    obtain ⟨f9, t9⟩ := a9 k hk
    have C6 := c1_st (i := 6) (v := .int (iZ (stC D q : Int))) rfl hc
    have C2 := c1_st (i := 2) (v := .int (iZ (bZ (s || opS D k q)))) rfl C6
    have C5 := c1_st (i := 5) (v := .int (iZ ((q : Int) + 1))) rfl C2
    obtain ⟨lv', i1, i2, i3, i4, i5, i6⟩ := ih (q + 1) (s || opS D k q) _ (by omega) C5 (by rw [lk_s C2, lk_s C6, lk_s hc]; exact l0) (by rw [lk_s C2, lk_s C6, lk_s hc]; exact l1) (by rw [lk_s C2, lk_s C6]; rfl) (by rw [lk_s C2, lk_s C6, lk_s hc]; exact l3) (by rw [lk_s C2, lk_s C6, lk_s hc]; exact l4) (by rw [lk_s C2]; rfl)
    refine ⟨lv', i1, i2, i3, i4, i5, fun res hg => ?_⟩
    have hg' := i6 res hg
    have stb := stC_mono (C := D) (show q ≤ D.length by omega)
    rw [stC_all] at stb
    cases s with
    | true =>
      rw [Bool.true_or] at hg'
      refine Gx.run 60 Cs.tt (fun K _ => ?_) hg'
      simp (disch := first | (refine c1_id ?_; assumption) | (refine c1_st rfl ?_; repeat (first | assumption | refine c1_st rfl ?_)) | omega) [nx_l, nx_r, nx_n, x_st, x_push, x_bin, x_div, x_un, x_dup, x_pop, x_dup2, x_goto, x_ifeq, x_ifne, x_iflt, x_ifge, x_ifgt, x_ifle, x_iceq, x_icne, x_iclt, x_icge, x_icgt, x_icle, x_ifnull, x_ifnonnull, x_ldi, x_lda, x_sti, x_sta, x_iinc, x_gf, x_pf, x_ald, x_ast, x_aln, x_len, x_cl_, x_cv, x_cs, x_rc, x_r0, x_isT, x_oi, x_rv, x_ri, x_ra, Value.category, t144_0, t144_1, t144_2, t144_5, t144_6, t144_7, t144_10, t144_13, t144_14, t144_15, t144_16, t144_17, t144_18, t144_19, t144_20, t144_21, t144_24, t144_25, t144_26, t144_27, t144_28, t144_31, t144_32, t144_33, t144_36, t144_37, t144_40, t144_42, t144_43, t144_44, t144_45, t144_46, t144_47, t144_49, t144_50, t144_53, t144_55, t144_56, t144_58, t144_61, t144_62, t144_65, t144_67, t144_68, t144_69, t144_70, t144_71, t144_72, t144_75, t144_76, t144_78, t144_79, t144_80, t144_83, t144_85, t144_86, t144_89, t144_90, t144_92, t144_95, t144_97, t144_98, t144_100, t144_102, t144_103, t144_104, t144_105, t144_108, t144_109, t144_111, t144_112, t144_113, t144_115, t144_118, t144_121, t144_122, t144_125, t144_126, t144_127, t144_128, t144_130, t144_132, t144_133, t144_136, t144_137, t144_140, t144_142, t144_143, t144_144, t144_146, t144_147, t144_148, t144_150, t144_151, t144_154, t144_155, t144_158, t144_160, t144_161, t144_162, t144_164, t144_165, t144_166, t144_167, t144_170, t144_172, t144_173, t144_174, t144_175, t144_176, t144_177, t144_180, t144_181, t144_182, t144_184, t144_187, t144_188, t144_189, t144_190, t144_193, t144_196, t144_197, t144_199, t144_201, t144_204, t144_207, t144_208, t144_211, t144_212, t144_213, t144_216, t144_219, t144_222, t144_225, t144_226, lk_s, hp_get, hp_set, uH_at, uH_ne, uH_upd, uH_swap, iZ_add, iZ_sub, iZ_mul, iZ_neg, iZ_lt, iZ_le, iZ_eq, iZ_div, iZ_of, ix_Z, gZ_map, gZ_mapI, gZ_map', le_0, le_s, sZ_map, sZ_len, bZ_0, bZ_inj, bZ_t, bZ_f, nr_i, nr_0, nr_1, nr_b, ft_i, ft_b, ft_0, ft_1, zl_0, zl_1, zl_7, zl_99, mF_len, mg_0, mg_1, mg_2, mg_3, mg_4, mg_5, mg_6, mg_7, mg_8, mg_9, mg_10, mg_11, mg_12, mg_13, mg_14, mg_15, mg_16, mg_17, mg_18, mg_19, mg_20, mg_21, mg_22, mg_23, mg_24, mg_25, mg_26, mg_27, mg_28, mg_29, mg_30, mg_31, mg_32, mg_33, mg_34, mg_35, mg_36, mg_37, mg_38, ms_0, ms_1, ms_2, ms_13, ms_14, ms_15, ms_16, ms_21, ms_22, ms_23, ms_24, ms_28, ms_36, ms_37, ms_38, st_at, st_ne, st_st, st_swap, l0, l1, l2, l3, l4, l5, hm, h29, e8, b1, -List.filter_filter, -List.getElem?_map, -List.getD_eq_getElem?_getD]
    | false =>
      rw [Bool.false_or] at hg'
      rw [← e9] at s9
      rw [← f9] at t9
      by_cases hsg : (lC D q).1 = (lC D k).1
      · have eo : opS D k q = false := decide_eq_false (fun z => z.1 hsg)
        rw [eo] at hg'
        rw [← e9, ← f9] at hsg
        refine Gx.run 60 Cs.tt (fun K _ => ?_) hg'
        rcases t9 with t9 | t9
        · rw [t9] at hsg
          simp (disch := first | (refine c1_id ?_; assumption) | (refine c1_st rfl ?_; repeat (first | assumption | refine c1_st rfl ?_)) | omega) [nx_l, nx_r, nx_n, x_st, x_push, x_bin, x_div, x_un, x_dup, x_pop, x_dup2, x_goto, x_ifeq, x_ifne, x_iflt, x_ifge, x_ifgt, x_ifle, x_iceq, x_icne, x_iclt, x_icge, x_icgt, x_icle, x_ifnull, x_ifnonnull, x_ldi, x_lda, x_sti, x_sta, x_iinc, x_gf, x_pf, x_ald, x_ast, x_aln, x_len, x_cl_, x_cv, x_cs, x_rc, x_r0, x_isT, x_oi, x_rv, x_ri, x_ra, Value.category, t144_0, t144_1, t144_2, t144_5, t144_6, t144_7, t144_10, t144_13, t144_14, t144_15, t144_16, t144_17, t144_18, t144_19, t144_20, t144_21, t144_24, t144_25, t144_26, t144_27, t144_28, t144_31, t144_32, t144_33, t144_36, t144_37, t144_40, t144_42, t144_43, t144_44, t144_45, t144_46, t144_47, t144_49, t144_50, t144_53, t144_55, t144_56, t144_58, t144_61, t144_62, t144_65, t144_67, t144_68, t144_69, t144_70, t144_71, t144_72, t144_75, t144_76, t144_78, t144_79, t144_80, t144_83, t144_85, t144_86, t144_89, t144_90, t144_92, t144_95, t144_97, t144_98, t144_100, t144_102, t144_103, t144_104, t144_105, t144_108, t144_109, t144_111, t144_112, t144_113, t144_115, t144_118, t144_121, t144_122, t144_125, t144_126, t144_127, t144_128, t144_130, t144_132, t144_133, t144_136, t144_137, t144_140, t144_142, t144_143, t144_144, t144_146, t144_147, t144_148, t144_150, t144_151, t144_154, t144_155, t144_158, t144_160, t144_161, t144_162, t144_164, t144_165, t144_166, t144_167, t144_170, t144_172, t144_173, t144_174, t144_175, t144_176, t144_177, t144_180, t144_181, t144_182, t144_184, t144_187, t144_188, t144_189, t144_190, t144_193, t144_196, t144_197, t144_199, t144_201, t144_204, t144_207, t144_208, t144_211, t144_212, t144_213, t144_216, t144_219, t144_222, t144_225, t144_226, lk_s, hp_get, hp_set, uH_at, uH_ne, uH_upd, uH_swap, iZ_add, iZ_sub, iZ_mul, iZ_neg, iZ_lt, iZ_le, iZ_eq, iZ_div, iZ_of, ix_Z, gZ_map, gZ_mapI, gZ_map', le_0, le_s, sZ_map, sZ_len, bZ_0, bZ_inj, bZ_t, bZ_f, nr_i, nr_0, nr_1, nr_b, ft_i, ft_b, ft_0, ft_1, zl_0, zl_1, zl_7, zl_99, mF_len, mg_0, mg_1, mg_2, mg_3, mg_4, mg_5, mg_6, mg_7, mg_8, mg_9, mg_10, mg_11, mg_12, mg_13, mg_14, mg_15, mg_16, mg_17, mg_18, mg_19, mg_20, mg_21, mg_22, mg_23, mg_24, mg_25, mg_26, mg_27, mg_28, mg_29, mg_30, mg_31, mg_32, mg_33, mg_34, mg_35, mg_36, mg_37, mg_38, ms_0, ms_1, ms_2, ms_13, ms_14, ms_15, ms_16, ms_21, ms_22, ms_23, ms_24, ms_28, ms_36, ms_37, ms_38, st_at, st_ne, st_st, st_swap, l0, l1, l2, l3, l4, l5, hm, h29, h33, e8, b1, hsg, t9, -List.filter_filter, -List.getElem?_map, -List.getD_eq_getElem?_getD]
        · rw [t9] at hsg
          simp (disch := first | (refine c1_id ?_; assumption) | (refine c1_st rfl ?_; repeat (first | assumption | refine c1_st rfl ?_)) | omega) [nx_l, nx_r, nx_n, x_st, x_push, x_bin, x_div, x_un, x_dup, x_pop, x_dup2, x_goto, x_ifeq, x_ifne, x_iflt, x_ifge, x_ifgt, x_ifle, x_iceq, x_icne, x_iclt, x_icge, x_icgt, x_icle, x_ifnull, x_ifnonnull, x_ldi, x_lda, x_sti, x_sta, x_iinc, x_gf, x_pf, x_ald, x_ast, x_aln, x_len, x_cl_, x_cv, x_cs, x_rc, x_r0, x_isT, x_oi, x_rv, x_ri, x_ra, Value.category, t144_0, t144_1, t144_2, t144_5, t144_6, t144_7, t144_10, t144_13, t144_14, t144_15, t144_16, t144_17, t144_18, t144_19, t144_20, t144_21, t144_24, t144_25, t144_26, t144_27, t144_28, t144_31, t144_32, t144_33, t144_36, t144_37, t144_40, t144_42, t144_43, t144_44, t144_45, t144_46, t144_47, t144_49, t144_50, t144_53, t144_55, t144_56, t144_58, t144_61, t144_62, t144_65, t144_67, t144_68, t144_69, t144_70, t144_71, t144_72, t144_75, t144_76, t144_78, t144_79, t144_80, t144_83, t144_85, t144_86, t144_89, t144_90, t144_92, t144_95, t144_97, t144_98, t144_100, t144_102, t144_103, t144_104, t144_105, t144_108, t144_109, t144_111, t144_112, t144_113, t144_115, t144_118, t144_121, t144_122, t144_125, t144_126, t144_127, t144_128, t144_130, t144_132, t144_133, t144_136, t144_137, t144_140, t144_142, t144_143, t144_144, t144_146, t144_147, t144_148, t144_150, t144_151, t144_154, t144_155, t144_158, t144_160, t144_161, t144_162, t144_164, t144_165, t144_166, t144_167, t144_170, t144_172, t144_173, t144_174, t144_175, t144_176, t144_177, t144_180, t144_181, t144_182, t144_184, t144_187, t144_188, t144_189, t144_190, t144_193, t144_196, t144_197, t144_199, t144_201, t144_204, t144_207, t144_208, t144_211, t144_212, t144_213, t144_216, t144_219, t144_222, t144_225, t144_226, lk_s, hp_get, hp_set, uH_at, uH_ne, uH_upd, uH_swap, iZ_add, iZ_sub, iZ_mul, iZ_neg, iZ_lt, iZ_le, iZ_eq, iZ_div, iZ_of, ix_Z, gZ_map, gZ_mapI, gZ_map', le_0, le_s, sZ_map, sZ_len, bZ_0, bZ_inj, bZ_t, bZ_f, nr_i, nr_0, nr_1, nr_b, ft_i, ft_b, ft_0, ft_1, zl_0, zl_1, zl_7, zl_99, mF_len, mg_0, mg_1, mg_2, mg_3, mg_4, mg_5, mg_6, mg_7, mg_8, mg_9, mg_10, mg_11, mg_12, mg_13, mg_14, mg_15, mg_16, mg_17, mg_18, mg_19, mg_20, mg_21, mg_22, mg_23, mg_24, mg_25, mg_26, mg_27, mg_28, mg_29, mg_30, mg_31, mg_32, mg_33, mg_34, mg_35, mg_36, mg_37, mg_38, ms_0, ms_1, ms_2, ms_13, ms_14, ms_15, ms_16, ms_21, ms_22, ms_23, ms_24, ms_28, ms_36, ms_37, ms_38, st_at, st_ne, st_st, st_swap, l0, l1, l2, l3, l4, l5, hm, h29, h33, e8, b1, hsg, t9, -List.filter_filter, -List.getElem?_map, -List.getD_eq_getElem?_getD]
      · have hsg' : ¬ (gZ (x 33) (7 * c + (q : Int)) = gZ (x 33) (7 * c + (k : Int))) := by rw [e9, f9]; exact hsg
        have X1 := m126 (w := w) (d + 2) hN hm h29 a2 c q a4 a5 (by omega) qb
        have X2 := m126 (w := w) (d + 2) hN hm h29 a2 c k a4 a5 (by omega) kb
        have e8s := a8 (q + 1) (by omega)
        have f8s := a8 (k + 1) (by omega)
        have f8 := a8 k (by omega)
        rw [show 7 * c + ((q + 1 : Nat) : Int) = 7 * c + (q : Int) + 1 by omega, stC_succ hqD] at e8s
        rw [show 7 * c + ((k + 1 : Nat) : Int) = 7 * c + (k : Int) + 1 by omega, stC_succ hk] at f8s
        rw [e8, e8s, show (((stC D q + (lC D q).2.length : Nat)) : Int) - (stC D q : Int) = ((lC D q).2.length : Int) by omega] at X1
        rw [f8, f8s, show (((stC D k + (lC D k).2.length : Nat)) : Int) - (stC D k : Int) = ((lC D k).2.length : Int) by omega] at X2
        have sm := stC_mono (C := D) (show q + 1 ≤ D.length from hqD)
        have sm2 := stC_mono (C := D) (show k + 1 ≤ D.length from hk)
        rw [stC_all] at sm sm2
        have sq := stC_succ hqD
        have sk := stC_succ hk
        have hTq := (gD.2.2 _ (lC_mem hqD)).2.1
        have atq := hL.at0 n45 (by omega) hqD hTq
        rw [Int.zero_add] at atq
        have X3 := m129p (w := w) d hN hm h45 n45 hO.2.1 (stC D k) (stC D q) (by omega) (by omega) (by rw [atk.2.1]; exact hTk) (by rw [atk.2.1]; omega) (by rw [atq.2.1]; exact hTq) (by rw [atq.2.1]; omega)
        rw [atk.2.1, atq.2.1] at X3
        obtain ⟨nq, hnq⟩ : ∃ n : Int, n = ((lC D q).2.length : Int) := ⟨_, rfl⟩
        obtain ⟨nk, hnk⟩ : ∃ n : Int, n = ((lC D k).2.length : Int) := ⟨_, rfl⟩
        rw [← hnq] at X1
        rw [← hnk] at X2
        have nqr : 0 ≤ nq ∧ nq ≤ 40 := by omega
        have nkr : 0 ≤ nk ∧ nk ≤ 40 := by omega
        have nq0 := nqr.1
        have nq1 := nqr.2
        have nk0 := nkr.1
        have nk1 := nkr.2
        by_cases hln : nq = nk
        · have eo : opS D k q = decide ((lC D k).2 = (lC D q).2) := by
            unfold opS
            rw [Bool.eq_iff_iff, decide_eq_true_iff, decide_eq_true_iff]
            exact ⟨fun z => z.2.symm, fun z => ⟨hsg, z.symm⟩⟩
          rw [eo] at hg'
          subst hln
          refine Gx.run 80 ((X1.and X2).and X3) (fun K mm => ?_) hg'
          obtain ⟨⟨mm1, mm2⟩, mm3⟩ := mm
          revert mm3
          cases decide ((lC D k).2 = (lC D q).2) with
          | false =>
            intro mm3
            rw [bZ_f] at mm3
            rcases t9 with t9 | t9 <;> rcases s9 with s9 | s9
            · exact absurd (s9.trans t9.symm) hsg'
            · simp (disch := first | (refine c1_id ?_; assumption) | (refine c1_st rfl ?_; repeat (first | assumption | refine c1_st rfl ?_)) | omega) [nx_l, nx_r, nx_n, x_st, x_push, x_bin, x_div, x_un, x_dup, x_pop, x_dup2, x_goto, x_ifeq, x_ifne, x_iflt, x_ifge, x_ifgt, x_ifle, x_iceq, x_icne, x_iclt, x_icge, x_icgt, x_icle, x_ifnull, x_ifnonnull, x_ldi, x_lda, x_sti, x_sta, x_iinc, x_gf, x_pf, x_ald, x_ast, x_aln, x_len, x_cl_, x_cv, x_cs, x_rc, x_r0, x_isT, x_oi, x_rv, x_ri, x_ra, Value.category, t144_0, t144_1, t144_2, t144_5, t144_6, t144_7, t144_10, t144_13, t144_14, t144_15, t144_16, t144_17, t144_18, t144_19, t144_20, t144_21, t144_24, t144_25, t144_26, t144_27, t144_28, t144_31, t144_32, t144_33, t144_36, t144_37, t144_40, t144_42, t144_43, t144_44, t144_45, t144_46, t144_47, t144_49, t144_50, t144_53, t144_55, t144_56, t144_58, t144_61, t144_62, t144_65, t144_67, t144_68, t144_69, t144_70, t144_71, t144_72, t144_75, t144_76, t144_78, t144_79, t144_80, t144_83, t144_85, t144_86, t144_89, t144_90, t144_92, t144_95, t144_97, t144_98, t144_100, t144_102, t144_103, t144_104, t144_105, t144_108, t144_109, t144_111, t144_112, t144_113, t144_115, t144_118, t144_121, t144_122, t144_125, t144_126, t144_127, t144_128, t144_130, t144_132, t144_133, t144_136, t144_137, t144_140, t144_142, t144_143, t144_144, t144_146, t144_147, t144_148, t144_150, t144_151, t144_154, t144_155, t144_158, t144_160, t144_161, t144_162, t144_164, t144_165, t144_166, t144_167, t144_170, t144_172, t144_173, t144_174, t144_175, t144_176, t144_177, t144_180, t144_181, t144_182, t144_184, t144_187, t144_188, t144_189, t144_190, t144_193, t144_196, t144_197, t144_199, t144_201, t144_204, t144_207, t144_208, t144_211, t144_212, t144_213, t144_216, t144_219, t144_222, t144_225, t144_226, lk_s, hp_get, hp_set, uH_at, uH_ne, uH_upd, uH_swap, iZ_add, iZ_sub, iZ_mul, iZ_neg, iZ_lt, iZ_le, iZ_eq, iZ_div, iZ_of, ix_Z, gZ_map, gZ_mapI, gZ_map', le_0, le_s, sZ_map, sZ_len, bZ_0, bZ_inj, bZ_t, bZ_f, nr_i, nr_0, nr_1, nr_b, ft_i, ft_b, ft_0, ft_1, zl_0, zl_1, zl_7, zl_99, mF_len, mg_0, mg_1, mg_2, mg_3, mg_4, mg_5, mg_6, mg_7, mg_8, mg_9, mg_10, mg_11, mg_12, mg_13, mg_14, mg_15, mg_16, mg_17, mg_18, mg_19, mg_20, mg_21, mg_22, mg_23, mg_24, mg_25, mg_26, mg_27, mg_28, mg_29, mg_30, mg_31, mg_32, mg_33, mg_34, mg_35, mg_36, mg_37, mg_38, ms_0, ms_1, ms_2, ms_13, ms_14, ms_15, ms_16, ms_21, ms_22, ms_23, ms_24, ms_28, ms_36, ms_37, ms_38, st_at, st_ne, st_st, st_swap, l0, l1, l2, l3, l4, l5, hm, h29, h33, e8, b1, t9, s9, mm1, mm2, mm3, -List.filter_filter, -List.getElem?_map, -List.getD_eq_getElem?_getD]
            · simp (disch := first | (refine c1_id ?_; assumption) | (refine c1_st rfl ?_; repeat (first | assumption | refine c1_st rfl ?_)) | omega) [nx_l, nx_r, nx_n, x_st, x_push, x_bin, x_div, x_un, x_dup, x_pop, x_dup2, x_goto, x_ifeq, x_ifne, x_iflt, x_ifge, x_ifgt, x_ifle, x_iceq, x_icne, x_iclt, x_icge, x_icgt, x_icle, x_ifnull, x_ifnonnull, x_ldi, x_lda, x_sti, x_sta, x_iinc, x_gf, x_pf, x_ald, x_ast, x_aln, x_len, x_cl_, x_cv, x_cs, x_rc, x_r0, x_isT, x_oi, x_rv, x_ri, x_ra, Value.category, t144_0, t144_1, t144_2, t144_5, t144_6, t144_7, t144_10, t144_13, t144_14, t144_15, t144_16, t144_17, t144_18, t144_19, t144_20, t144_21, t144_24, t144_25, t144_26, t144_27, t144_28, t144_31, t144_32, t144_33, t144_36, t144_37, t144_40, t144_42, t144_43, t144_44, t144_45, t144_46, t144_47, t144_49, t144_50, t144_53, t144_55, t144_56, t144_58, t144_61, t144_62, t144_65, t144_67, t144_68, t144_69, t144_70, t144_71, t144_72, t144_75, t144_76, t144_78, t144_79, t144_80, t144_83, t144_85, t144_86, t144_89, t144_90, t144_92, t144_95, t144_97, t144_98, t144_100, t144_102, t144_103, t144_104, t144_105, t144_108, t144_109, t144_111, t144_112, t144_113, t144_115, t144_118, t144_121, t144_122, t144_125, t144_126, t144_127, t144_128, t144_130, t144_132, t144_133, t144_136, t144_137, t144_140, t144_142, t144_143, t144_144, t144_146, t144_147, t144_148, t144_150, t144_151, t144_154, t144_155, t144_158, t144_160, t144_161, t144_162, t144_164, t144_165, t144_166, t144_167, t144_170, t144_172, t144_173, t144_174, t144_175, t144_176, t144_177, t144_180, t144_181, t144_182, t144_184, t144_187, t144_188, t144_189, t144_190, t144_193, t144_196, t144_197, t144_199, t144_201, t144_204, t144_207, t144_208, t144_211, t144_212, t144_213, t144_216, t144_219, t144_222, t144_225, t144_226, lk_s, hp_get, hp_set, uH_at, uH_ne, uH_upd, uH_swap, iZ_add, iZ_sub, iZ_mul, iZ_neg, iZ_lt, iZ_le, iZ_eq, iZ_div, iZ_of, ix_Z, gZ_map, gZ_mapI, gZ_map', le_0, le_s, sZ_map, sZ_len, bZ_0, bZ_inj, bZ_t, bZ_f, nr_i, nr_0, nr_1, nr_b, ft_i, ft_b, ft_0, ft_1, zl_0, zl_1, zl_7, zl_99, mF_len, mg_0, mg_1, mg_2, mg_3, mg_4, mg_5, mg_6, mg_7, mg_8, mg_9, mg_10, mg_11, mg_12, mg_13, mg_14, mg_15, mg_16, mg_17, mg_18, mg_19, mg_20, mg_21, mg_22, mg_23, mg_24, mg_25, mg_26, mg_27, mg_28, mg_29, mg_30, mg_31, mg_32, mg_33, mg_34, mg_35, mg_36, mg_37, mg_38, ms_0, ms_1, ms_2, ms_13, ms_14, ms_15, ms_16, ms_21, ms_22, ms_23, ms_24, ms_28, ms_36, ms_37, ms_38, st_at, st_ne, st_st, st_swap, l0, l1, l2, l3, l4, l5, hm, h29, h33, e8, b1, t9, s9, mm1, mm2, mm3, -List.filter_filter, -List.getElem?_map, -List.getD_eq_getElem?_getD]
            · exact absurd (s9.trans t9.symm) hsg'
          | true =>
            intro mm3
            rw [bZ_t] at mm3
            rcases t9 with t9 | t9 <;> rcases s9 with s9 | s9
            · exact absurd (s9.trans t9.symm) hsg'
            · simp (disch := first | (refine c1_id ?_; assumption) | (refine c1_st rfl ?_; repeat (first | assumption | refine c1_st rfl ?_)) | omega) [nx_l, nx_r, nx_n, x_st, x_push, x_bin, x_div, x_un, x_dup, x_pop, x_dup2, x_goto, x_ifeq, x_ifne, x_iflt, x_ifge, x_ifgt, x_ifle, x_iceq, x_icne, x_iclt, x_icge, x_icgt, x_icle, x_ifnull, x_ifnonnull, x_ldi, x_lda, x_sti, x_sta, x_iinc, x_gf, x_pf, x_ald, x_ast, x_aln, x_len, x_cl_, x_cv, x_cs, x_rc, x_r0, x_isT, x_oi, x_rv, x_ri, x_ra, Value.category, t144_0, t144_1, t144_2, t144_5, t144_6, t144_7, t144_10, t144_13, t144_14, t144_15, t144_16, t144_17, t144_18, t144_19, t144_20, t144_21, t144_24, t144_25, t144_26, t144_27, t144_28, t144_31, t144_32, t144_33, t144_36, t144_37, t144_40, t144_42, t144_43, t144_44, t144_45, t144_46, t144_47, t144_49, t144_50, t144_53, t144_55, t144_56, t144_58, t144_61, t144_62, t144_65, t144_67, t144_68, t144_69, t144_70, t144_71, t144_72, t144_75, t144_76, t144_78, t144_79, t144_80, t144_83, t144_85, t144_86, t144_89, t144_90, t144_92, t144_95, t144_97, t144_98, t144_100, t144_102, t144_103, t144_104, t144_105, t144_108, t144_109, t144_111, t144_112, t144_113, t144_115, t144_118, t144_121, t144_122, t144_125, t144_126, t144_127, t144_128, t144_130, t144_132, t144_133, t144_136, t144_137, t144_140, t144_142, t144_143, t144_144, t144_146, t144_147, t144_148, t144_150, t144_151, t144_154, t144_155, t144_158, t144_160, t144_161, t144_162, t144_164, t144_165, t144_166, t144_167, t144_170, t144_172, t144_173, t144_174, t144_175, t144_176, t144_177, t144_180, t144_181, t144_182, t144_184, t144_187, t144_188, t144_189, t144_190, t144_193, t144_196, t144_197, t144_199, t144_201, t144_204, t144_207, t144_208, t144_211, t144_212, t144_213, t144_216, t144_219, t144_222, t144_225, t144_226, lk_s, hp_get, hp_set, uH_at, uH_ne, uH_upd, uH_swap, iZ_add, iZ_sub, iZ_mul, iZ_neg, iZ_lt, iZ_le, iZ_eq, iZ_div, iZ_of, ix_Z, gZ_map, gZ_mapI, gZ_map', le_0, le_s, sZ_map, sZ_len, bZ_0, bZ_inj, bZ_t, bZ_f, nr_i, nr_0, nr_1, nr_b, ft_i, ft_b, ft_0, ft_1, zl_0, zl_1, zl_7, zl_99, mF_len, mg_0, mg_1, mg_2, mg_3, mg_4, mg_5, mg_6, mg_7, mg_8, mg_9, mg_10, mg_11, mg_12, mg_13, mg_14, mg_15, mg_16, mg_17, mg_18, mg_19, mg_20, mg_21, mg_22, mg_23, mg_24, mg_25, mg_26, mg_27, mg_28, mg_29, mg_30, mg_31, mg_32, mg_33, mg_34, mg_35, mg_36, mg_37, mg_38, ms_0, ms_1, ms_2, ms_13, ms_14, ms_15, ms_16, ms_21, ms_22, ms_23, ms_24, ms_28, ms_36, ms_37, ms_38, st_at, st_ne, st_st, st_swap, l0, l1, l2, l3, l4, l5, hm, h29, h33, e8, b1, t9, s9, mm1, mm2, mm3, -List.filter_filter, -List.getElem?_map, -List.getD_eq_getElem?_getD]
            · simp (disch := first | (refine c1_id ?_; assumption) | (refine c1_st rfl ?_; repeat (first | assumption | refine c1_st rfl ?_)) | omega) [nx_l, nx_r, nx_n, x_st, x_push, x_bin, x_div, x_un, x_dup, x_pop, x_dup2, x_goto, x_ifeq, x_ifne, x_iflt, x_ifge, x_ifgt, x_ifle, x_iceq, x_icne, x_iclt, x_icge, x_icgt, x_icle, x_ifnull, x_ifnonnull, x_ldi, x_lda, x_sti, x_sta, x_iinc, x_gf, x_pf, x_ald, x_ast, x_aln, x_len, x_cl_, x_cv, x_cs, x_rc, x_r0, x_isT, x_oi, x_rv, x_ri, x_ra, Value.category, t144_0, t144_1, t144_2, t144_5, t144_6, t144_7, t144_10, t144_13, t144_14, t144_15, t144_16, t144_17, t144_18, t144_19, t144_20, t144_21, t144_24, t144_25, t144_26, t144_27, t144_28, t144_31, t144_32, t144_33, t144_36, t144_37, t144_40, t144_42, t144_43, t144_44, t144_45, t144_46, t144_47, t144_49, t144_50, t144_53, t144_55, t144_56, t144_58, t144_61, t144_62, t144_65, t144_67, t144_68, t144_69, t144_70, t144_71, t144_72, t144_75, t144_76, t144_78, t144_79, t144_80, t144_83, t144_85, t144_86, t144_89, t144_90, t144_92, t144_95, t144_97, t144_98, t144_100, t144_102, t144_103, t144_104, t144_105, t144_108, t144_109, t144_111, t144_112, t144_113, t144_115, t144_118, t144_121, t144_122, t144_125, t144_126, t144_127, t144_128, t144_130, t144_132, t144_133, t144_136, t144_137, t144_140, t144_142, t144_143, t144_144, t144_146, t144_147, t144_148, t144_150, t144_151, t144_154, t144_155, t144_158, t144_160, t144_161, t144_162, t144_164, t144_165, t144_166, t144_167, t144_170, t144_172, t144_173, t144_174, t144_175, t144_176, t144_177, t144_180, t144_181, t144_182, t144_184, t144_187, t144_188, t144_189, t144_190, t144_193, t144_196, t144_197, t144_199, t144_201, t144_204, t144_207, t144_208, t144_211, t144_212, t144_213, t144_216, t144_219, t144_222, t144_225, t144_226, lk_s, hp_get, hp_set, uH_at, uH_ne, uH_upd, uH_swap, iZ_add, iZ_sub, iZ_mul, iZ_neg, iZ_lt, iZ_le, iZ_eq, iZ_div, iZ_of, ix_Z, gZ_map, gZ_mapI, gZ_map', le_0, le_s, sZ_map, sZ_len, bZ_0, bZ_inj, bZ_t, bZ_f, nr_i, nr_0, nr_1, nr_b, ft_i, ft_b, ft_0, ft_1, zl_0, zl_1, zl_7, zl_99, mF_len, mg_0, mg_1, mg_2, mg_3, mg_4, mg_5, mg_6, mg_7, mg_8, mg_9, mg_10, mg_11, mg_12, mg_13, mg_14, mg_15, mg_16, mg_17, mg_18, mg_19, mg_20, mg_21, mg_22, mg_23, mg_24, mg_25, mg_26, mg_27, mg_28, mg_29, mg_30, mg_31, mg_32, mg_33, mg_34, mg_35, mg_36, mg_37, mg_38, ms_0, ms_1, ms_2, ms_13, ms_14, ms_15, ms_16, ms_21, ms_22, ms_23, ms_24, ms_28, ms_36, ms_37, ms_38, st_at, st_ne, st_st, st_swap, l0, l1, l2, l3, l4, l5, hm, h29, h33, e8, b1, t9, s9, mm1, mm2, mm3, -List.filter_filter, -List.getElem?_map, -List.getD_eq_getElem?_getD]
            · exact absurd (s9.trans t9.symm) hsg'
        · have eo : opS D k q = false := decide_eq_false (fun z => hln (by rw [hnq, hnk, z.2]))
          rw [eo] at hg'
          refine Gx.run 80 (X1.and X2) (fun K mm => ?_) hg'
          obtain ⟨mm1, mm2⟩ := mm
          rcases t9 with t9 | t9 <;> rcases s9 with s9 | s9
          · exact absurd (s9.trans t9.symm) hsg'
          · simp (disch := first | (refine c1_id ?_; assumption) | (refine c1_st rfl ?_; repeat (first | assumption | refine c1_st rfl ?_)) | omega) [nx_l, nx_r, nx_n, x_st, x_push, x_bin, x_div, x_un, x_dup, x_pop, x_dup2, x_goto, x_ifeq, x_ifne, x_iflt, x_ifge, x_ifgt, x_ifle, x_iceq, x_icne, x_iclt, x_icge, x_icgt, x_icle, x_ifnull, x_ifnonnull, x_ldi, x_lda, x_sti, x_sta, x_iinc, x_gf, x_pf, x_ald, x_ast, x_aln, x_len, x_cl_, x_cv, x_cs, x_rc, x_r0, x_isT, x_oi, x_rv, x_ri, x_ra, Value.category, t144_0, t144_1, t144_2, t144_5, t144_6, t144_7, t144_10, t144_13, t144_14, t144_15, t144_16, t144_17, t144_18, t144_19, t144_20, t144_21, t144_24, t144_25, t144_26, t144_27, t144_28, t144_31, t144_32, t144_33, t144_36, t144_37, t144_40, t144_42, t144_43, t144_44, t144_45, t144_46, t144_47, t144_49, t144_50, t144_53, t144_55, t144_56, t144_58, t144_61, t144_62, t144_65, t144_67, t144_68, t144_69, t144_70, t144_71, t144_72, t144_75, t144_76, t144_78, t144_79, t144_80, t144_83, t144_85, t144_86, t144_89, t144_90, t144_92, t144_95, t144_97, t144_98, t144_100, t144_102, t144_103, t144_104, t144_105, t144_108, t144_109, t144_111, t144_112, t144_113, t144_115, t144_118, t144_121, t144_122, t144_125, t144_126, t144_127, t144_128, t144_130, t144_132, t144_133, t144_136, t144_137, t144_140, t144_142, t144_143, t144_144, t144_146, t144_147, t144_148, t144_150, t144_151, t144_154, t144_155, t144_158, t144_160, t144_161, t144_162, t144_164, t144_165, t144_166, t144_167, t144_170, t144_172, t144_173, t144_174, t144_175, t144_176, t144_177, t144_180, t144_181, t144_182, t144_184, t144_187, t144_188, t144_189, t144_190, t144_193, t144_196, t144_197, t144_199, t144_201, t144_204, t144_207, t144_208, t144_211, t144_212, t144_213, t144_216, t144_219, t144_222, t144_225, t144_226, lk_s, hp_get, hp_set, uH_at, uH_ne, uH_upd, uH_swap, iZ_add, iZ_sub, iZ_mul, iZ_neg, iZ_lt, iZ_le, iZ_eq, iZ_div, iZ_of, ix_Z, gZ_map, gZ_mapI, gZ_map', le_0, le_s, sZ_map, sZ_len, bZ_0, bZ_inj, bZ_t, bZ_f, nr_i, nr_0, nr_1, nr_b, ft_i, ft_b, ft_0, ft_1, zl_0, zl_1, zl_7, zl_99, mF_len, mg_0, mg_1, mg_2, mg_3, mg_4, mg_5, mg_6, mg_7, mg_8, mg_9, mg_10, mg_11, mg_12, mg_13, mg_14, mg_15, mg_16, mg_17, mg_18, mg_19, mg_20, mg_21, mg_22, mg_23, mg_24, mg_25, mg_26, mg_27, mg_28, mg_29, mg_30, mg_31, mg_32, mg_33, mg_34, mg_35, mg_36, mg_37, mg_38, ms_0, ms_1, ms_2, ms_13, ms_14, ms_15, ms_16, ms_21, ms_22, ms_23, ms_24, ms_28, ms_36, ms_37, ms_38, st_at, st_ne, st_st, st_swap, l0, l1, l2, l3, l4, l5, hm, h29, h33, e8, b1, t9, s9, mm1, mm2, hln, -List.filter_filter, -List.getElem?_map, -List.getD_eq_getElem?_getD]
          · simp (disch := first | (refine c1_id ?_; assumption) | (refine c1_st rfl ?_; repeat (first | assumption | refine c1_st rfl ?_)) | omega) [nx_l, nx_r, nx_n, x_st, x_push, x_bin, x_div, x_un, x_dup, x_pop, x_dup2, x_goto, x_ifeq, x_ifne, x_iflt, x_ifge, x_ifgt, x_ifle, x_iceq, x_icne, x_iclt, x_icge, x_icgt, x_icle, x_ifnull, x_ifnonnull, x_ldi, x_lda, x_sti, x_sta, x_iinc, x_gf, x_pf, x_ald, x_ast, x_aln, x_len, x_cl_, x_cv, x_cs, x_rc, x_r0, x_isT, x_oi, x_rv, x_ri, x_ra, Value.category, t144_0, t144_1, t144_2, t144_5, t144_6, t144_7, t144_10, t144_13, t144_14, t144_15, t144_16, t144_17, t144_18, t144_19, t144_20, t144_21, t144_24, t144_25, t144_26, t144_27, t144_28, t144_31, t144_32, t144_33, t144_36, t144_37, t144_40, t144_42, t144_43, t144_44, t144_45, t144_46, t144_47, t144_49, t144_50, t144_53, t144_55, t144_56, t144_58, t144_61, t144_62, t144_65, t144_67, t144_68, t144_69, t144_70, t144_71, t144_72, t144_75, t144_76, t144_78, t144_79, t144_80, t144_83, t144_85, t144_86, t144_89, t144_90, t144_92, t144_95, t144_97, t144_98, t144_100, t144_102, t144_103, t144_104, t144_105, t144_108, t144_109, t144_111, t144_112, t144_113, t144_115, t144_118, t144_121, t144_122, t144_125, t144_126, t144_127, t144_128, t144_130, t144_132, t144_133, t144_136, t144_137, t144_140, t144_142, t144_143, t144_144, t144_146, t144_147, t144_148, t144_150, t144_151, t144_154, t144_155, t144_158, t144_160, t144_161, t144_162, t144_164, t144_165, t144_166, t144_167, t144_170, t144_172, t144_173, t144_174, t144_175, t144_176, t144_177, t144_180, t144_181, t144_182, t144_184, t144_187, t144_188, t144_189, t144_190, t144_193, t144_196, t144_197, t144_199, t144_201, t144_204, t144_207, t144_208, t144_211, t144_212, t144_213, t144_216, t144_219, t144_222, t144_225, t144_226, lk_s, hp_get, hp_set, uH_at, uH_ne, uH_upd, uH_swap, iZ_add, iZ_sub, iZ_mul, iZ_neg, iZ_lt, iZ_le, iZ_eq, iZ_div, iZ_of, ix_Z, gZ_map, gZ_mapI, gZ_map', le_0, le_s, sZ_map, sZ_len, bZ_0, bZ_inj, bZ_t, bZ_f, nr_i, nr_0, nr_1, nr_b, ft_i, ft_b, ft_0, ft_1, zl_0, zl_1, zl_7, zl_99, mF_len, mg_0, mg_1, mg_2, mg_3, mg_4, mg_5, mg_6, mg_7, mg_8, mg_9, mg_10, mg_11, mg_12, mg_13, mg_14, mg_15, mg_16, mg_17, mg_18, mg_19, mg_20, mg_21, mg_22, mg_23, mg_24, mg_25, mg_26, mg_27, mg_28, mg_29, mg_30, mg_31, mg_32, mg_33, mg_34, mg_35, mg_36, mg_37, mg_38, ms_0, ms_1, ms_2, ms_13, ms_14, ms_15, ms_16, ms_21, ms_22, ms_23, ms_24, ms_28, ms_36, ms_37, ms_38, st_at, st_ne, st_st, st_swap, l0, l1, l2, l3, l4, l5, hm, h29, h33, e8, b1, t9, s9, mm1, mm2, hln, -List.filter_filter, -List.getElem?_map, -List.getD_eq_getElem?_getD]
          · exact absurd (s9.trans t9.symm) hsg'
theorem s144 (d : Nat) (hN : 53 ≤ N) (h : RO w m x) (hO : SOK (x 45)) (hD : RC c D (x 30) (x 29) (x 33)) (gD : gC D) (hL : LD 0 D (x 45)) (k : Nat) (hk : k < D.length) (s : Bool) (lv : xL) (hc : c1 lv) (l0 : x_lk lv 0 = some (.ref 30)) (l1 : x_lk lv 1 = some (.int (iZ c))) (l2 : x_lk lv 2 = some (.int (iZ (bZ s)))) (l3 : x_lk lv 3 = some (.int (iZ (k : Int)))) : ∃ lv', c1 lv' ∧ x_lk lv' 0 = some (.ref 30) ∧ x_lk lv' 1 = some (.int (iZ c)) ∧ x_lk lv' 2 = some (.int (iZ (bZ (s || (decide ((lC D k).1 = 0) && eqS (lC D k).2))))) ∧ x_lk lv' 3 = some (.int (iZ (k : Int))) ∧ x_lk lv' 4 = some (.int (iZ (stC D k : Int))) ∧ ∀ res, Gx q_k144 (d + 3) 127 (lv', [], hp w N) res → Gx q_k144 (d + 3) 26 (lv, [], hp w N) res := by
  obtain ⟨a1, a2, a3, a4, a5, a6, a7, a8, a9⟩ := id hD
  have hm := h.1
  have h29 : w 29 = cI 0 (x 29) := (h.2 29 (by decide) (by decide)).1
  have h30 : w 30 = cI 0 (x 30) := (h.2 30 (by decide) (by decide)).1
  have h33 : w 33 = cI 1 (x 33) := (h.2 33 (by decide) (by decide)).1
  have h45 : w 45 = cI 0 (x 45) := (h.2 45 (by decide) (by decide)).1
  have n45 : (x 45).length = 160 := (h.2 45 (by decide) (by decide)).2
  have gD2 := gD.2.1
  have hTk := (gD.2.2 _ (lC_mem hk)).2.1
  have atk := hL.at0 n45 (by omega) hk hTk
  rw [Int.zero_add] at atk
  have kb : (k : Int) < 6 := by omega
  have e8 := a8 k (by omega)
  obtain ⟨e9, s9⟩ := a9 k hk
  have b1 : ¬ (D.length : Int) ≤ (k : Int) := by omega
  have sm2 := stC_mono (C := D) (show k + 1 ≤ D.length from hk)
  rw [stC_all] at sm2
  have sk := stC_succ hk
  have C4 := c1_st (i := 4) (v := .int (iZ (stC D k : Int))) rfl hc
  obtain ⟨a, ha⟩ : ∃ a : Int, a = (stC D k : Int) := ⟨_, rfl⟩
  have a0 : 0 ≤ a := by omega
  have a9' : a < 100 := by omega
  by_cases h99 : (lC D k).2.getD 0 0 = 99
  · have hpa : gZ (x 45) a = 99 := by rw [ha, atk.2.2]; exact h99
    by_cases hneg : (lC D k).1 = 0
    · have hng : gZ (x 33) (7 * c + (k : Int)) = 0 := by rw [e9]; exact hneg
      obtain ⟨o1, o2, o3, o4⟩ := hL.eqs n45 gD2 hk hTk h99
      obtain ⟨t1, t2⟩ := two_99 hTk h99
      have T1 := Ts_at hTk t1
      have T2 := Ts_at hTk t2
      have X1 := m109 (w := w) (d + 1) hN hm h45 (by omega) hO.2.1 ((stC D k : Int) + 1) (by omega) (by rw [o2]; exact T1)
      rw [o2] at X1
      have X2 := m109 (w := w) (d + 1) hN hm h45 (by omega) hO.2.1 ((stC D k : Int) + 1 + (tm (lC D k).2 1).length) (by omega) (by rw [o4]; exact T2)
      rw [o4] at X2
      have X3 := m129p (w := w) d hN hm h45 n45 hO.2.1 ((stC D k : Int) + 1) ((stC D k : Int) + 1 + (tm (lC D k).2 1).length) (by omega) (by omega) (by rw [o2]; exact T1) (by have := o1.2.1; omega) (by rw [o4]; exact T2) (by have := o3.2.1; omega)
      rw [o2, o4] at X3
      obtain ⟨n1, hn1⟩ : ∃ n : Int, n = ((tm (lC D k).2 1).length : Int) := ⟨_, rfl⟩
      obtain ⟨n2, hn2⟩ : ∃ n : Int, n = ((tm (lC D k).2 (1 + (tm (lC D k).2 1).length)).length : Int) := ⟨_, rfl⟩
      rw [← hn1, ← ha] at X1 X2 X3
      rw [← hn2] at X2
      have f1 := tm_fits t1
      have f2 := tm_fits t2
      obtain ⟨y, hy⟩ : ∃ y : Int, y = a + 1 + n1 := ⟨_, rfl⟩
      obtain ⟨y2, hy2⟩ : ∃ y2 : Int, y2 = y + n2 := ⟨_, rfl⟩
      rw [← hy] at X1 X2 X3
      rw [← hy2] at X2
      have r1 : y2 - y = n2 := by omega
      have r2 : y - a - 1 = n1 := by omega
      have n1r : 0 ≤ n1 := by omega
      have n1s : n1 ≤ 40 := by omega
      have n2r : 0 ≤ n2 := by omega
      have n2s : n2 ≤ 40 := by omega
      rw [← ha] at e8 C4
      have C5 := c1_st (i := 5) (v := .int (iZ y)) rfl C4
      have ee : eqS (lC D k).2 = decide (tm (lC D k).2 1 = tm (lC D k).2 (1 + (tm (lC D k).2 1).length)) := by
        unfold eqS
        rw [Bool.eq_iff_iff, decide_eq_true_iff, decide_eq_true_iff]
        exact ⟨fun z => z.2, fun z => ⟨h99, z⟩⟩
      rw [decide_eq_true hneg, Bool.true_and, ee, ← ha]
      have C2 := c1_st (i := 2) (v := .int (iZ (bZ (s || decide (tm (lC D k).2 1 = tm (lC D k).2 (1 + (tm (lC D k).2 1).length)))))) rfl C5
      refine ⟨(2, .int (iZ (bZ (s || decide (tm (lC D k).2 1 = tm (lC D k).2 (1 + (tm (lC D k).2 1).length)))))) :: List.filter (x_keep 2) ((5, .int (iZ y)) :: List.filter (x_keep 5) ((4, .int (iZ a)) :: lv.filter (x_keep 4))), C2, by rw [lk_s C5, lk_s C4, lk_s hc]; exact l0, by rw [lk_s C5, lk_s C4, lk_s hc]; exact l1, by rw [lk_s C5]; rfl, by rw [lk_s C5, lk_s C4, lk_s hc]; exact l3, by rw [lk_s C5, lk_s C4, lk_s hc]; rfl, fun res hg => ?_⟩
      cases s with
      | true =>
        rw [Bool.true_or] at hg
        refine Gx.run 80 X1 (fun K mm => ?_) hg
        simp (disch := first | (refine c1_id ?_; assumption) | (refine c1_st rfl ?_; repeat (first | assumption | refine c1_st rfl ?_)) | omega) [nx_l, nx_r, nx_n, x_st, x_push, x_bin, x_div, x_un, x_dup, x_pop, x_dup2, x_goto, x_ifeq, x_ifne, x_iflt, x_ifge, x_ifgt, x_ifle, x_iceq, x_icne, x_iclt, x_icge, x_icgt, x_icle, x_ifnull, x_ifnonnull, x_ldi, x_lda, x_sti, x_sta, x_iinc, x_gf, x_pf, x_ald, x_ast, x_aln, x_len, x_cl_, x_cv, x_cs, x_rc, x_r0, x_isT, x_oi, x_rv, x_ri, x_ra, Value.category, t144_0, t144_1, t144_2, t144_5, t144_6, t144_7, t144_10, t144_13, t144_14, t144_15, t144_16, t144_17, t144_18, t144_19, t144_20, t144_21, t144_24, t144_25, t144_26, t144_27, t144_28, t144_31, t144_32, t144_33, t144_36, t144_37, t144_40, t144_42, t144_43, t144_44, t144_45, t144_46, t144_47, t144_49, t144_50, t144_53, t144_55, t144_56, t144_58, t144_61, t144_62, t144_65, t144_67, t144_68, t144_69, t144_70, t144_71, t144_72, t144_75, t144_76, t144_78, t144_79, t144_80, t144_83, t144_85, t144_86, t144_89, t144_90, t144_92, t144_95, t144_97, t144_98, t144_100, t144_102, t144_103, t144_104, t144_105, t144_108, t144_109, t144_111, t144_112, t144_113, t144_115, t144_118, t144_121, t144_122, t144_125, t144_126, t144_127, t144_128, t144_130, t144_132, t144_133, t144_136, t144_137, t144_140, t144_142, t144_143, t144_144, t144_146, t144_147, t144_148, t144_150, t144_151, t144_154, t144_155, t144_158, t144_160, t144_161, t144_162, t144_164, t144_165, t144_166, t144_167, t144_170, t144_172, t144_173, t144_174, t144_175, t144_176, t144_177, t144_180, t144_181, t144_182, t144_184, t144_187, t144_188, t144_189, t144_190, t144_193, t144_196, t144_197, t144_199, t144_201, t144_204, t144_207, t144_208, t144_211, t144_212, t144_213, t144_216, t144_219, t144_222, t144_225, t144_226, lk_s, hp_get, hp_set, uH_at, uH_ne, uH_upd, uH_swap, iZ_add, iZ_sub, iZ_mul, iZ_neg, iZ_lt, iZ_le, iZ_eq, iZ_div, iZ_of, ix_Z, gZ_map, gZ_mapI, gZ_map', le_0, le_s, sZ_map, sZ_len, bZ_0, bZ_inj, bZ_t, bZ_f, nr_i, nr_0, nr_1, nr_b, ft_i, ft_b, ft_0, ft_1, zl_0, zl_1, zl_7, zl_99, mF_len, mg_0, mg_1, mg_2, mg_3, mg_4, mg_5, mg_6, mg_7, mg_8, mg_9, mg_10, mg_11, mg_12, mg_13, mg_14, mg_15, mg_16, mg_17, mg_18, mg_19, mg_20, mg_21, mg_22, mg_23, mg_24, mg_25, mg_26, mg_27, mg_28, mg_29, mg_30, mg_31, mg_32, mg_33, mg_34, mg_35, mg_36, mg_37, mg_38, ms_0, ms_1, ms_2, ms_13, ms_14, ms_15, ms_16, ms_21, ms_22, ms_23, ms_24, ms_28, ms_36, ms_37, ms_38, st_at, st_ne, st_st, st_swap, l0, l1, l2, l3, hm, h29, h30, h33, h45, a7, e8, b1, hpa, hng, mm, -List.filter_filter, -List.getElem?_map, -List.getD_eq_getElem?_getD]
      | false =>
        rw [Bool.false_or] at hg
        by_cases hnn : n2 = n1
        · refine Gx.run 100 ((X1.and X2).and X3) (fun K mm => ?_) hg
          obtain ⟨⟨mm1, mm2⟩, mm3⟩ := mm
          have hnn' := eq_true hnn
          revert mm3
          cases decide (tm (lC D k).2 1 = tm (lC D k).2 (1 + (tm (lC D k).2 1).length)) with
          | false =>
            intro mm3
            rw [bZ_f] at mm3
            simp (disch := first | (refine c1_id ?_; assumption) | (refine c1_st rfl ?_; repeat (first | assumption | refine c1_st rfl ?_)) | omega) [nx_l, nx_r, nx_n, x_st, x_push, x_bin, x_div, x_un, x_dup, x_pop, x_dup2, x_goto, x_ifeq, x_ifne, x_iflt, x_ifge, x_ifgt, x_ifle, x_iceq, x_icne, x_iclt, x_icge, x_icgt, x_icle, x_ifnull, x_ifnonnull, x_ldi, x_lda, x_sti, x_sta, x_iinc, x_gf, x_pf, x_ald, x_ast, x_aln, x_len, x_cl_, x_cv, x_cs, x_rc, x_r0, x_isT, x_oi, x_rv, x_ri, x_ra, Value.category, t144_0, t144_1, t144_2, t144_5, t144_6, t144_7, t144_10, t144_13, t144_14, t144_15, t144_16, t144_17, t144_18, t144_19, t144_20, t144_21, t144_24, t144_25, t144_26, t144_27, t144_28, t144_31, t144_32, t144_33, t144_36, t144_37, t144_40, t144_42, t144_43, t144_44, t144_45, t144_46, t144_47, t144_49, t144_50, t144_53, t144_55, t144_56, t144_58, t144_61, t144_62, t144_65, t144_67, t144_68, t144_69, t144_70, t144_71, t144_72, t144_75, t144_76, t144_78, t144_79, t144_80, t144_83, t144_85, t144_86, t144_89, t144_90, t144_92, t144_95, t144_97, t144_98, t144_100, t144_102, t144_103, t144_104, t144_105, t144_108, t144_109, t144_111, t144_112, t144_113, t144_115, t144_118, t144_121, t144_122, t144_125, t144_126, t144_127, t144_128, t144_130, t144_132, t144_133, t144_136, t144_137, t144_140, t144_142, t144_143, t144_144, t144_146, t144_147, t144_148, t144_150, t144_151, t144_154, t144_155, t144_158, t144_160, t144_161, t144_162, t144_164, t144_165, t144_166, t144_167, t144_170, t144_172, t144_173, t144_174, t144_175, t144_176, t144_177, t144_180, t144_181, t144_182, t144_184, t144_187, t144_188, t144_189, t144_190, t144_193, t144_196, t144_197, t144_199, t144_201, t144_204, t144_207, t144_208, t144_211, t144_212, t144_213, t144_216, t144_219, t144_222, t144_225, t144_226, lk_s, hp_get, hp_set, uH_at, uH_ne, uH_upd, uH_swap, iZ_add, iZ_sub, iZ_mul, iZ_neg, iZ_lt, iZ_le, iZ_eq, iZ_div, iZ_of, ix_Z, gZ_map, gZ_mapI, gZ_map', le_0, le_s, sZ_map, sZ_len, bZ_0, bZ_inj, bZ_t, bZ_f, nr_i, nr_0, nr_1, nr_b, ft_i, ft_b, ft_0, ft_1, zl_0, zl_1, zl_7, zl_99, mF_len, mg_0, mg_1, mg_2, mg_3, mg_4, mg_5, mg_6, mg_7, mg_8, mg_9, mg_10, mg_11, mg_12, mg_13, mg_14, mg_15, mg_16, mg_17, mg_18, mg_19, mg_20, mg_21, mg_22, mg_23, mg_24, mg_25, mg_26, mg_27, mg_28, mg_29, mg_30, mg_31, mg_32, mg_33, mg_34, mg_35, mg_36, mg_37, mg_38, ms_0, ms_1, ms_2, ms_13, ms_14, ms_15, ms_16, ms_21, ms_22, ms_23, ms_24, ms_28, ms_36, ms_37, ms_38, st_at, st_ne, st_st, st_swap, l0, l1, l2, l3, hm, h29, h30, h33, h45, a7, e8, b1, hpa, hng, r1, r2, hnn', mm1, mm2, mm3, -List.filter_filter, -List.getElem?_map, -List.getD_eq_getElem?_getD]
          | true =>
            intro mm3
            rw [bZ_t] at mm3
            simp (disch := first | (refine c1_id ?_; assumption) | (refine c1_st rfl ?_; repeat (first | assumption | refine c1_st rfl ?_)) | omega) [nx_l, nx_r, nx_n, x_st, x_push, x_bin, x_div, x_un, x_dup, x_pop, x_dup2, x_goto, x_ifeq, x_ifne, x_iflt, x_ifge, x_ifgt, x_ifle, x_iceq, x_icne, x_iclt, x_icge, x_icgt, x_icle, x_ifnull, x_ifnonnull, x_ldi, x_lda, x_sti, x_sta, x_iinc, x_gf, x_pf, x_ald, x_ast, x_aln, x_len, x_cl_, x_cv, x_cs, x_rc, x_r0, x_isT, x_oi, x_rv, x_ri, x_ra, Value.category, t144_0, t144_1, t144_2, t144_5, t144_6, t144_7, t144_10, t144_13, t144_14, t144_15, t144_16, t144_17, t144_18, t144_19, t144_20, t144_21, t144_24, t144_25, t144_26, t144_27, t144_28, t144_31, t144_32, t144_33, t144_36, t144_37, t144_40, t144_42, t144_43, t144_44, t144_45, t144_46, t144_47, t144_49, t144_50, t144_53, t144_55, t144_56, t144_58, t144_61, t144_62, t144_65, t144_67, t144_68, t144_69, t144_70, t144_71, t144_72, t144_75, t144_76, t144_78, t144_79, t144_80, t144_83, t144_85, t144_86, t144_89, t144_90, t144_92, t144_95, t144_97, t144_98, t144_100, t144_102, t144_103, t144_104, t144_105, t144_108, t144_109, t144_111, t144_112, t144_113, t144_115, t144_118, t144_121, t144_122, t144_125, t144_126, t144_127, t144_128, t144_130, t144_132, t144_133, t144_136, t144_137, t144_140, t144_142, t144_143, t144_144, t144_146, t144_147, t144_148, t144_150, t144_151, t144_154, t144_155, t144_158, t144_160, t144_161, t144_162, t144_164, t144_165, t144_166, t144_167, t144_170, t144_172, t144_173, t144_174, t144_175, t144_176, t144_177, t144_180, t144_181, t144_182, t144_184, t144_187, t144_188, t144_189, t144_190, t144_193, t144_196, t144_197, t144_199, t144_201, t144_204, t144_207, t144_208, t144_211, t144_212, t144_213, t144_216, t144_219, t144_222, t144_225, t144_226, lk_s, hp_get, hp_set, uH_at, uH_ne, uH_upd, uH_swap, iZ_add, iZ_sub, iZ_mul, iZ_neg, iZ_lt, iZ_le, iZ_eq, iZ_div, iZ_of, ix_Z, gZ_map, gZ_mapI, gZ_map', le_0, le_s, sZ_map, sZ_len, bZ_0, bZ_inj, bZ_t, bZ_f, nr_i, nr_0, nr_1, nr_b, ft_i, ft_b, ft_0, ft_1, zl_0, zl_1, zl_7, zl_99, mF_len, mg_0, mg_1, mg_2, mg_3, mg_4, mg_5, mg_6, mg_7, mg_8, mg_9, mg_10, mg_11, mg_12, mg_13, mg_14, mg_15, mg_16, mg_17, mg_18, mg_19, mg_20, mg_21, mg_22, mg_23, mg_24, mg_25, mg_26, mg_27, mg_28, mg_29, mg_30, mg_31, mg_32, mg_33, mg_34, mg_35, mg_36, mg_37, mg_38, ms_0, ms_1, ms_2, ms_13, ms_14, ms_15, ms_16, ms_21, ms_22, ms_23, ms_24, ms_28, ms_36, ms_37, ms_38, st_at, st_ne, st_st, st_swap, l0, l1, l2, l3, hm, h29, h30, h33, h45, a7, e8, b1, hpa, hng, r1, r2, hnn', mm1, mm2, mm3, -List.filter_filter, -List.getElem?_map, -List.getD_eq_getElem?_getD]
        · rw [decide_eq_false (fun z => hnn (by rw [hn1, hn2, ← z]))] at hg
          refine Gx.run 100 (X1.and X2) (fun K mm => ?_) hg
          obtain ⟨mm1, mm2⟩ := mm
          simp (disch := first | (refine c1_id ?_; assumption) | (refine c1_st rfl ?_; repeat (first | assumption | refine c1_st rfl ?_)) | omega) [nx_l, nx_r, nx_n, x_st, x_push, x_bin, x_div, x_un, x_dup, x_pop, x_dup2, x_goto, x_ifeq, x_ifne, x_iflt, x_ifge, x_ifgt, x_ifle, x_iceq, x_icne, x_iclt, x_icge, x_icgt, x_icle, x_ifnull, x_ifnonnull, x_ldi, x_lda, x_sti, x_sta, x_iinc, x_gf, x_pf, x_ald, x_ast, x_aln, x_len, x_cl_, x_cv, x_cs, x_rc, x_r0, x_isT, x_oi, x_rv, x_ri, x_ra, Value.category, t144_0, t144_1, t144_2, t144_5, t144_6, t144_7, t144_10, t144_13, t144_14, t144_15, t144_16, t144_17, t144_18, t144_19, t144_20, t144_21, t144_24, t144_25, t144_26, t144_27, t144_28, t144_31, t144_32, t144_33, t144_36, t144_37, t144_40, t144_42, t144_43, t144_44, t144_45, t144_46, t144_47, t144_49, t144_50, t144_53, t144_55, t144_56, t144_58, t144_61, t144_62, t144_65, t144_67, t144_68, t144_69, t144_70, t144_71, t144_72, t144_75, t144_76, t144_78, t144_79, t144_80, t144_83, t144_85, t144_86, t144_89, t144_90, t144_92, t144_95, t144_97, t144_98, t144_100, t144_102, t144_103, t144_104, t144_105, t144_108, t144_109, t144_111, t144_112, t144_113, t144_115, t144_118, t144_121, t144_122, t144_125, t144_126, t144_127, t144_128, t144_130, t144_132, t144_133, t144_136, t144_137, t144_140, t144_142, t144_143, t144_144, t144_146, t144_147, t144_148, t144_150, t144_151, t144_154, t144_155, t144_158, t144_160, t144_161, t144_162, t144_164, t144_165, t144_166, t144_167, t144_170, t144_172, t144_173, t144_174, t144_175, t144_176, t144_177, t144_180, t144_181, t144_182, t144_184, t144_187, t144_188, t144_189, t144_190, t144_193, t144_196, t144_197, t144_199, t144_201, t144_204, t144_207, t144_208, t144_211, t144_212, t144_213, t144_216, t144_219, t144_222, t144_225, t144_226, lk_s, hp_get, hp_set, uH_at, uH_ne, uH_upd, uH_swap, iZ_add, iZ_sub, iZ_mul, iZ_neg, iZ_lt, iZ_le, iZ_eq, iZ_div, iZ_of, ix_Z, gZ_map, gZ_mapI, gZ_map', le_0, le_s, sZ_map, sZ_len, bZ_0, bZ_inj, bZ_t, bZ_f, nr_i, nr_0, nr_1, nr_b, ft_i, ft_b, ft_0, ft_1, zl_0, zl_1, zl_7, zl_99, mF_len, mg_0, mg_1, mg_2, mg_3, mg_4, mg_5, mg_6, mg_7, mg_8, mg_9, mg_10, mg_11, mg_12, mg_13, mg_14, mg_15, mg_16, mg_17, mg_18, mg_19, mg_20, mg_21, mg_22, mg_23, mg_24, mg_25, mg_26, mg_27, mg_28, mg_29, mg_30, mg_31, mg_32, mg_33, mg_34, mg_35, mg_36, mg_37, mg_38, ms_0, ms_1, ms_2, ms_13, ms_14, ms_15, ms_16, ms_21, ms_22, ms_23, ms_24, ms_28, ms_36, ms_37, ms_38, st_at, st_ne, st_st, st_swap, l0, l1, l2, l3, hm, h29, h30, h33, h45, a7, e8, b1, hpa, hng, r1, r2, hnn, mm1, mm2, -List.filter_filter, -List.getElem?_map, -List.getD_eq_getElem?_getD]
    · have hng : gZ (x 33) (7 * c + (k : Int)) = 1 := by
        rw [e9]
        rcases s9 with z | z
        · exact absurd z hneg
        · exact z
      rw [decide_eq_false hneg, Bool.false_and, Bool.or_false]
      refine ⟨_, C4, by rw [lk_s hc]; exact l0, by rw [lk_s hc]; exact l1, by rw [lk_s hc]; exact l2, by rw [lk_s hc]; exact l3, by rw [lk_s hc]; rfl, fun res hg => Gx.run 60 Cs.tt (fun K _ => ?_) hg⟩
      rw [← ha] at e8 ⊢
      simp (disch := first | (refine c1_id ?_; assumption) | (refine c1_st rfl ?_; repeat (first | assumption | refine c1_st rfl ?_)) | omega) [nx_l, nx_r, nx_n, x_st, x_push, x_bin, x_div, x_un, x_dup, x_pop, x_dup2, x_goto, x_ifeq, x_ifne, x_iflt, x_ifge, x_ifgt, x_ifle, x_iceq, x_icne, x_iclt, x_icge, x_icgt, x_icle, x_ifnull, x_ifnonnull, x_ldi, x_lda, x_sti, x_sta, x_iinc, x_gf, x_pf, x_ald, x_ast, x_aln, x_len, x_cl_, x_cv, x_cs, x_rc, x_r0, x_isT, x_oi, x_rv, x_ri, x_ra, Value.category, t144_0, t144_1, t144_2, t144_5, t144_6, t144_7, t144_10, t144_13, t144_14, t144_15, t144_16, t144_17, t144_18, t144_19, t144_20, t144_21, t144_24, t144_25, t144_26, t144_27, t144_28, t144_31, t144_32, t144_33, t144_36, t144_37, t144_40, t144_42, t144_43, t144_44, t144_45, t144_46, t144_47, t144_49, t144_50, t144_53, t144_55, t144_56, t144_58, t144_61, t144_62, t144_65, t144_67, t144_68, t144_69, t144_70, t144_71, t144_72, t144_75, t144_76, t144_78, t144_79, t144_80, t144_83, t144_85, t144_86, t144_89, t144_90, t144_92, t144_95, t144_97, t144_98, t144_100, t144_102, t144_103, t144_104, t144_105, t144_108, t144_109, t144_111, t144_112, t144_113, t144_115, t144_118, t144_121, t144_122, t144_125, t144_126, t144_127, t144_128, t144_130, t144_132, t144_133, t144_136, t144_137, t144_140, t144_142, t144_143, t144_144, t144_146, t144_147, t144_148, t144_150, t144_151, t144_154, t144_155, t144_158, t144_160, t144_161, t144_162, t144_164, t144_165, t144_166, t144_167, t144_170, t144_172, t144_173, t144_174, t144_175, t144_176, t144_177, t144_180, t144_181, t144_182, t144_184, t144_187, t144_188, t144_189, t144_190, t144_193, t144_196, t144_197, t144_199, t144_201, t144_204, t144_207, t144_208, t144_211, t144_212, t144_213, t144_216, t144_219, t144_222, t144_225, t144_226, lk_s, hp_get, hp_set, uH_at, uH_ne, uH_upd, uH_swap, iZ_add, iZ_sub, iZ_mul, iZ_neg, iZ_lt, iZ_le, iZ_eq, iZ_div, iZ_of, ix_Z, gZ_map, gZ_mapI, gZ_map', le_0, le_s, sZ_map, sZ_len, bZ_0, bZ_inj, bZ_t, bZ_f, nr_i, nr_0, nr_1, nr_b, ft_i, ft_b, ft_0, ft_1, zl_0, zl_1, zl_7, zl_99, mF_len, mg_0, mg_1, mg_2, mg_3, mg_4, mg_5, mg_6, mg_7, mg_8, mg_9, mg_10, mg_11, mg_12, mg_13, mg_14, mg_15, mg_16, mg_17, mg_18, mg_19, mg_20, mg_21, mg_22, mg_23, mg_24, mg_25, mg_26, mg_27, mg_28, mg_29, mg_30, mg_31, mg_32, mg_33, mg_34, mg_35, mg_36, mg_37, mg_38, ms_0, ms_1, ms_2, ms_13, ms_14, ms_15, ms_16, ms_21, ms_22, ms_23, ms_24, ms_28, ms_36, ms_37, ms_38, st_at, st_ne, st_st, st_swap, l0, l1, l2, l3, hm, h29, h30, h33, h45, a7, e8, b1, hpa, hng, -List.filter_filter, -List.getElem?_map, -List.getD_eq_getElem?_getD]
  · have hpa : ¬ gZ (x 45) a = 99 := by rw [ha, atk.2.2]; exact h99
    have hpr := hO.2.1 a
    have ee : eqS (lC D k).2 = false := decide_eq_false (fun z => h99 z.1)
    rw [ee, Bool.and_false, Bool.or_false]
    refine ⟨_, C4, by rw [lk_s hc]; exact l0, by rw [lk_s hc]; exact l1, by rw [lk_s hc]; exact l2, by rw [lk_s hc]; exact l3, by rw [lk_s hc]; rfl, fun res hg => Gx.run 60 Cs.tt (fun K _ => ?_) hg⟩
    rw [← ha] at e8 ⊢
    have hp0 := hpr.1
    have hp1 := hpr.2
    simp (disch := first | (refine c1_id ?_; assumption) | (refine c1_st rfl ?_; repeat (first | assumption | refine c1_st rfl ?_)) | omega) [nx_l, nx_r, nx_n, x_st, x_push, x_bin, x_div, x_un, x_dup, x_pop, x_dup2, x_goto, x_ifeq, x_ifne, x_iflt, x_ifge, x_ifgt, x_ifle, x_iceq, x_icne, x_iclt, x_icge, x_icgt, x_icle, x_ifnull, x_ifnonnull, x_ldi, x_lda, x_sti, x_sta, x_iinc, x_gf, x_pf, x_ald, x_ast, x_aln, x_len, x_cl_, x_cv, x_cs, x_rc, x_r0, x_isT, x_oi, x_rv, x_ri, x_ra, Value.category, t144_0, t144_1, t144_2, t144_5, t144_6, t144_7, t144_10, t144_13, t144_14, t144_15, t144_16, t144_17, t144_18, t144_19, t144_20, t144_21, t144_24, t144_25, t144_26, t144_27, t144_28, t144_31, t144_32, t144_33, t144_36, t144_37, t144_40, t144_42, t144_43, t144_44, t144_45, t144_46, t144_47, t144_49, t144_50, t144_53, t144_55, t144_56, t144_58, t144_61, t144_62, t144_65, t144_67, t144_68, t144_69, t144_70, t144_71, t144_72, t144_75, t144_76, t144_78, t144_79, t144_80, t144_83, t144_85, t144_86, t144_89, t144_90, t144_92, t144_95, t144_97, t144_98, t144_100, t144_102, t144_103, t144_104, t144_105, t144_108, t144_109, t144_111, t144_112, t144_113, t144_115, t144_118, t144_121, t144_122, t144_125, t144_126, t144_127, t144_128, t144_130, t144_132, t144_133, t144_136, t144_137, t144_140, t144_142, t144_143, t144_144, t144_146, t144_147, t144_148, t144_150, t144_151, t144_154, t144_155, t144_158, t144_160, t144_161, t144_162, t144_164, t144_165, t144_166, t144_167, t144_170, t144_172, t144_173, t144_174, t144_175, t144_176, t144_177, t144_180, t144_181, t144_182, t144_184, t144_187, t144_188, t144_189, t144_190, t144_193, t144_196, t144_197, t144_199, t144_201, t144_204, t144_207, t144_208, t144_211, t144_212, t144_213, t144_216, t144_219, t144_222, t144_225, t144_226, lk_s, hp_get, hp_set, uH_at, uH_ne, uH_upd, uH_swap, iZ_add, iZ_sub, iZ_mul, iZ_neg, iZ_lt, iZ_le, iZ_eq, iZ_div, iZ_of, ix_Z, gZ_map, gZ_mapI, gZ_map', le_0, le_s, sZ_map, sZ_len, bZ_0, bZ_inj, bZ_t, bZ_f, nr_i, nr_0, nr_1, nr_b, ft_i, ft_b, ft_0, ft_1, zl_0, zl_1, zl_7, zl_99, mF_len, mg_0, mg_1, mg_2, mg_3, mg_4, mg_5, mg_6, mg_7, mg_8, mg_9, mg_10, mg_11, mg_12, mg_13, mg_14, mg_15, mg_16, mg_17, mg_18, mg_19, mg_20, mg_21, mg_22, mg_23, mg_24, mg_25, mg_26, mg_27, mg_28, mg_29, mg_30, mg_31, mg_32, mg_33, mg_34, mg_35, mg_36, mg_37, mg_38, ms_0, ms_1, ms_2, ms_13, ms_14, ms_15, ms_16, ms_21, ms_22, ms_23, ms_24, ms_28, ms_36, ms_37, ms_38, st_at, st_ne, st_st, st_swap, l0, l1, l2, l3, hm, h29, h30, h33, h45, a7, e8, b1, hpa, -List.filter_filter, -List.getElem?_map, -List.getD_eq_getElem?_getD]
theorem l144o (d : Nat) (hN : 53 ≤ N) (h : RO w m x) (hO : SOK (x 45)) (hD : RC c D (x 30) (x 29) (x 33)) (gD : gC D) (hL : LD 0 D (x 45)) : ∀ (r k : Nat) (s : Bool) (lv : xL), k + r = D.length → c1 lv → x_lk lv 0 = some (.ref 30) → x_lk lv 1 = some (.int (iZ c)) → x_lk lv 2 = some (.int (iZ (bZ s))) → x_lk lv 3 = some (.int (iZ (k : Int))) → Gx q_k144 (d + 3) 26 (lv, [], hp w N) (some (.int (iZ (bZ (trO D r k s)))), hp w N) := by
  intro r
  induction r with
  | zero =>
    intro k s lv hk hc l0 l1 l2 l3
    obtain ⟨a1, a2, a3, a4, a5, a6, a7, a8, a9⟩ := hD
    have hm := h.1
    have h30 : w 30 = cI 0 (x 30) := (h.2 30 (by decide) (by decide)).1
    have b1 : (D.length : Int) ≤ (k : Int) := by omega
    have k9 : (k : Int) ≤ 6 := by omega
    have et : trO D 0 k s = s := rfl
    rw [et]
    refine Gx.fin 40 Cs.tt (fun K _ => ?_)
    simp (disch := first | (refine c1_id ?_; assumption) | (refine c1_st rfl ?_; repeat (first | assumption | refine c1_st rfl ?_)) | omega) [nx_l, nx_r, nx_n, x_st, x_push, x_bin, x_div, x_un, x_dup, x_pop, x_dup2, x_goto, x_ifeq, x_ifne, x_iflt, x_ifge, x_ifgt, x_ifle, x_iceq, x_icne, x_iclt, x_icge, x_icgt, x_icle, x_ifnull, x_ifnonnull, x_ldi, x_lda, x_sti, x_sta, x_iinc, x_gf, x_pf, x_ald, x_ast, x_aln, x_len, x_cl_, x_cv, x_cs, x_rc, x_r0, x_isT, x_oi, x_rv, x_ri, x_ra, Value.category, t144_0, t144_1, t144_2, t144_5, t144_6, t144_7, t144_10, t144_13, t144_14, t144_15, t144_16, t144_17, t144_18, t144_19, t144_20, t144_21, t144_24, t144_25, t144_26, t144_27, t144_28, t144_31, t144_32, t144_33, t144_36, t144_37, t144_40, t144_42, t144_43, t144_44, t144_45, t144_46, t144_47, t144_49, t144_50, t144_53, t144_55, t144_56, t144_58, t144_61, t144_62, t144_65, t144_67, t144_68, t144_69, t144_70, t144_71, t144_72, t144_75, t144_76, t144_78, t144_79, t144_80, t144_83, t144_85, t144_86, t144_89, t144_90, t144_92, t144_95, t144_97, t144_98, t144_100, t144_102, t144_103, t144_104, t144_105, t144_108, t144_109, t144_111, t144_112, t144_113, t144_115, t144_118, t144_121, t144_122, t144_125, t144_126, t144_127, t144_128, t144_130, t144_132, t144_133, t144_136, t144_137, t144_140, t144_142, t144_143, t144_144, t144_146, t144_147, t144_148, t144_150, t144_151, t144_154, t144_155, t144_158, t144_160, t144_161, t144_162, t144_164, t144_165, t144_166, t144_167, t144_170, t144_172, t144_173, t144_174, t144_175, t144_176, t144_177, t144_180, t144_181, t144_182, t144_184, t144_187, t144_188, t144_189, t144_190, t144_193, t144_196, t144_197, t144_199, t144_201, t144_204, t144_207, t144_208, t144_211, t144_212, t144_213, t144_216, t144_219, t144_222, t144_225, t144_226, lk_s, hp_get, hp_set, uH_at, uH_ne, uH_upd, uH_swap, iZ_add, iZ_sub, iZ_mul, iZ_neg, iZ_lt, iZ_le, iZ_eq, iZ_div, iZ_of, ix_Z, gZ_map, gZ_mapI, gZ_map', le_0, le_s, sZ_map, sZ_len, bZ_0, bZ_inj, bZ_t, bZ_f, nr_i, nr_0, nr_1, nr_b, ft_i, ft_b, ft_0, ft_1, zl_0, zl_1, zl_7, zl_99, mF_len, mg_0, mg_1, mg_2, mg_3, mg_4, mg_5, mg_6, mg_7, mg_8, mg_9, mg_10, mg_11, mg_12, mg_13, mg_14, mg_15, mg_16, mg_17, mg_18, mg_19, mg_20, mg_21, mg_22, mg_23, mg_24, mg_25, mg_26, mg_27, mg_28, mg_29, mg_30, mg_31, mg_32, mg_33, mg_34, mg_35, mg_36, mg_37, mg_38, ms_0, ms_1, ms_2, ms_13, ms_14, ms_15, ms_16, ms_21, ms_22, ms_23, ms_24, ms_28, ms_36, ms_37, ms_38, st_at, st_ne, st_st, st_swap, l0, l1, l2, l3, hm, h30, a7, b1, -List.filter_filter, -List.getElem?_map, -List.getD_eq_getElem?_getD]
  | succ r ih =>
    intro k s lv hk hc l0 l1 l2 l3
    have hkD : k < D.length := by omega
    obtain ⟨lv1, b1, b2, b3, b4, b5, b6, b7⟩ := s144 d hN h hO hD gD hL k hkD s lv hc l0 l1 l2 l3
    have C5 := c1_st (i := 5) (v := .int (iZ 0)) rfl b1
    obtain ⟨lv2, i1, i2, i3, i4, i5, i6⟩ := l144i d hN h hO hD gD hL k hkD k 0 _ _ (by omega) C5 (by rw [lk_s b1]; exact b2) (by rw [lk_s b1]; exact b3) (by rw [lk_s b1]; exact b4) (by rw [lk_s b1]; exact b5) (by rw [lk_s b1]; exact b6) (by rw [lk_s b1]; rfl)
    have C3 := c1_st (i := 3) (v := .int (iZ ((k : Int) + 1))) rfl i1
    have g := ih (k + 1) _ _ (by omega) C3 (by rw [lk_s i1]; exact i2) (by rw [lk_s i1]; exact i3) (by rw [lk_s i1]; exact i4) (by rw [lk_s i1]; rfl)
    refine b7 _ (Gx.run 20 Cs.tt (fun K _ => ?_) (i6 _ (Gx.run 20 Cs.tt (fun K _ => ?_) g)))
    · simp (disch := first | (refine c1_id ?_; assumption) | (refine c1_st rfl ?_; repeat (first | assumption | refine c1_st rfl ?_)) | omega) [nx_l, nx_r, nx_n, x_st, x_push, x_bin, x_div, x_un, x_dup, x_pop, x_dup2, x_goto, x_ifeq, x_ifne, x_iflt, x_ifge, x_ifgt, x_ifle, x_iceq, x_icne, x_iclt, x_icge, x_icgt, x_icle, x_ifnull, x_ifnonnull, x_ldi, x_lda, x_sti, x_sta, x_iinc, x_gf, x_pf, x_ald, x_ast, x_aln, x_len, x_cl_, x_cv, x_cs, x_rc, x_r0, x_isT, x_oi, x_rv, x_ri, x_ra, Value.category, t144_0, t144_1, t144_2, t144_5, t144_6, t144_7, t144_10, t144_13, t144_14, t144_15, t144_16, t144_17, t144_18, t144_19, t144_20, t144_21, t144_24, t144_25, t144_26, t144_27, t144_28, t144_31, t144_32, t144_33, t144_36, t144_37, t144_40, t144_42, t144_43, t144_44, t144_45, t144_46, t144_47, t144_49, t144_50, t144_53, t144_55, t144_56, t144_58, t144_61, t144_62, t144_65, t144_67, t144_68, t144_69, t144_70, t144_71, t144_72, t144_75, t144_76, t144_78, t144_79, t144_80, t144_83, t144_85, t144_86, t144_89, t144_90, t144_92, t144_95, t144_97, t144_98, t144_100, t144_102, t144_103, t144_104, t144_105, t144_108, t144_109, t144_111, t144_112, t144_113, t144_115, t144_118, t144_121, t144_122, t144_125, t144_126, t144_127, t144_128, t144_130, t144_132, t144_133, t144_136, t144_137, t144_140, t144_142, t144_143, t144_144, t144_146, t144_147, t144_148, t144_150, t144_151, t144_154, t144_155, t144_158, t144_160, t144_161, t144_162, t144_164, t144_165, t144_166, t144_167, t144_170, t144_172, t144_173, t144_174, t144_175, t144_176, t144_177, t144_180, t144_181, t144_182, t144_184, t144_187, t144_188, t144_189, t144_190, t144_193, t144_196, t144_197, t144_199, t144_201, t144_204, t144_207, t144_208, t144_211, t144_212, t144_213, t144_216, t144_219, t144_222, t144_225, t144_226, lk_s, hp_get, hp_set, uH_at, uH_ne, uH_upd, uH_swap, iZ_add, iZ_sub, iZ_mul, iZ_neg, iZ_lt, iZ_le, iZ_eq, iZ_div, iZ_of, ix_Z, gZ_map, gZ_mapI, gZ_map', le_0, le_s, sZ_map, sZ_len, bZ_0, bZ_inj, bZ_t, bZ_f, nr_i, nr_0, nr_1, nr_b, ft_i, ft_b, ft_0, ft_1, zl_0, zl_1, zl_7, zl_99, mF_len, mg_0, mg_1, mg_2, mg_3, mg_4, mg_5, mg_6, mg_7, mg_8, mg_9, mg_10, mg_11, mg_12, mg_13, mg_14, mg_15, mg_16, mg_17, mg_18, mg_19, mg_20, mg_21, mg_22, mg_23, mg_24, mg_25, mg_26, mg_27, mg_28, mg_29, mg_30, mg_31, mg_32, mg_33, mg_34, mg_35, mg_36, mg_37, mg_38, ms_0, ms_1, ms_2, ms_13, ms_14, ms_15, ms_16, ms_21, ms_22, ms_23, ms_24, ms_28, ms_36, ms_37, ms_38, st_at, st_ne, st_st, st_swap, b2, -List.filter_filter, -List.getElem?_map, -List.getD_eq_getElem?_getD]
    · simp (disch := first | (refine c1_id ?_; assumption) | (refine c1_st rfl ?_; repeat (first | assumption | refine c1_st rfl ?_)) | omega) [nx_l, nx_r, nx_n, x_st, x_push, x_bin, x_div, x_un, x_dup, x_pop, x_dup2, x_goto, x_ifeq, x_ifne, x_iflt, x_ifge, x_ifgt, x_ifle, x_iceq, x_icne, x_iclt, x_icge, x_icgt, x_icle, x_ifnull, x_ifnonnull, x_ldi, x_lda, x_sti, x_sta, x_iinc, x_gf, x_pf, x_ald, x_ast, x_aln, x_len, x_cl_, x_cv, x_cs, x_rc, x_r0, x_isT, x_oi, x_rv, x_ri, x_ra, Value.category, t144_0, t144_1, t144_2, t144_5, t144_6, t144_7, t144_10, t144_13, t144_14, t144_15, t144_16, t144_17, t144_18, t144_19, t144_20, t144_21, t144_24, t144_25, t144_26, t144_27, t144_28, t144_31, t144_32, t144_33, t144_36, t144_37, t144_40, t144_42, t144_43, t144_44, t144_45, t144_46, t144_47, t144_49, t144_50, t144_53, t144_55, t144_56, t144_58, t144_61, t144_62, t144_65, t144_67, t144_68, t144_69, t144_70, t144_71, t144_72, t144_75, t144_76, t144_78, t144_79, t144_80, t144_83, t144_85, t144_86, t144_89, t144_90, t144_92, t144_95, t144_97, t144_98, t144_100, t144_102, t144_103, t144_104, t144_105, t144_108, t144_109, t144_111, t144_112, t144_113, t144_115, t144_118, t144_121, t144_122, t144_125, t144_126, t144_127, t144_128, t144_130, t144_132, t144_133, t144_136, t144_137, t144_140, t144_142, t144_143, t144_144, t144_146, t144_147, t144_148, t144_150, t144_151, t144_154, t144_155, t144_158, t144_160, t144_161, t144_162, t144_164, t144_165, t144_166, t144_167, t144_170, t144_172, t144_173, t144_174, t144_175, t144_176, t144_177, t144_180, t144_181, t144_182, t144_184, t144_187, t144_188, t144_189, t144_190, t144_193, t144_196, t144_197, t144_199, t144_201, t144_204, t144_207, t144_208, t144_211, t144_212, t144_213, t144_216, t144_219, t144_222, t144_225, t144_226, lk_s, hp_get, hp_set, uH_at, uH_ne, uH_upd, uH_swap, iZ_add, iZ_sub, iZ_mul, iZ_neg, iZ_lt, iZ_le, iZ_eq, iZ_div, iZ_of, ix_Z, gZ_map, gZ_mapI, gZ_map', le_0, le_s, sZ_map, sZ_len, bZ_0, bZ_inj, bZ_t, bZ_f, nr_i, nr_0, nr_1, nr_b, ft_i, ft_b, ft_0, ft_1, zl_0, zl_1, zl_7, zl_99, mF_len, mg_0, mg_1, mg_2, mg_3, mg_4, mg_5, mg_6, mg_7, mg_8, mg_9, mg_10, mg_11, mg_12, mg_13, mg_14, mg_15, mg_16, mg_17, mg_18, mg_19, mg_20, mg_21, mg_22, mg_23, mg_24, mg_25, mg_26, mg_27, mg_28, mg_29, mg_30, mg_31, mg_32, mg_33, mg_34, mg_35, mg_36, mg_37, mg_38, ms_0, ms_1, ms_2, ms_13, ms_14, ms_15, ms_16, ms_21, ms_22, ms_23, ms_24, ms_28, ms_36, ms_37, ms_38, st_at, st_ne, st_st, st_swap, i2, i5, -List.filter_filter, -List.getElem?_map, -List.getD_eq_getElem?_getD]
end TV
section TW
variable {w : Nat → xC} {N : Nat} {m : Nat → Int} {x : Nat → List Int} {Ds : List (List (Int × List Int) × Bool × Int × Int)} {T U : List Int}
theorem m144 (d : Nat) (hN : 53 ≤ N) (h : RS w m x Ds T U) (c : Int) (cr : -2147483648 ≤ c ∧ c < 2147483648) : ∃ (w' : Nat → xC) (m' : Nat → Int) (x' : Nat → List Int), FrR w w' ∧ RS w' m' x' Ds T U ∧ m' 0 = 0 ∧ m' 1 = m 1 ∧ Xc (d + 4) 144 [.ref 30, .int (iZ c)] (hp w N) (some (.int (iZ (bZ (inC Ds c && trO (cl1 Ds c) (cl1 Ds c).length 0 false)))), hp w' N) := by
  have hm := h.1.1
  have hz := h.z0
  have hm1 := hz.1.1
  have X := m134 (d + 2) hN hz c cr
  have hc : c1 (lv_args 0 [.ref 30, .int (iZ c)]) := by simp [c1, lv_args, Value.category]
  have l0 : x_lk (lv_args 0 [.ref 30, .int (iZ c)]) 0 = some (.ref 30) := rfl
  have l1 : x_lk (lv_args 0 [.ref 30, .int (iZ c)]) 1 = some (.int (iZ c)) := rfl
  obtain ⟨m1, hm1e⟩ : ∃ m1, m1 = st_ m 0 0 := ⟨_, rfl⟩
  obtain ⟨w1, hw1⟩ : ∃ w1, w1 = uH w 27 (.inr (8, mF m1)) := ⟨_, rfl⟩
  rw [← hm1e, ← hw1] at hz hm1
  rw [← hm1e, ← hw1] at X
  have F1 : FrR w w1 := by rw [hw1]; exact (FrR.rf w).up (by decide) (by decide)
  have g5 : ∀ res, Gx q_k144 (d + 3) 5 (lv_args 0 [.ref 30, .int (iZ c)], [], hp w1 N) res → Gx q_k144 (d + 3) 0 (lv_args 0 [.ref 30, .int (iZ c)], [], hp w N) res := fun res hg => by
    generalize lv_args 0 [.ref 30, .int (iZ c)] = lv at hc l0 l1 hg
    refine Gx.run 20 Cs.tt (fun K _ => ?_) hg
    rw [hw1, hm1e]
    simp (disch := first | (refine c1_id ?_; assumption) | (refine c1_st rfl ?_; repeat (first | assumption | refine c1_st rfl ?_)) | omega) [nx_l, nx_r, nx_n, x_st, x_push, x_bin, x_div, x_un, x_dup, x_pop, x_dup2, x_goto, x_ifeq, x_ifne, x_iflt, x_ifge, x_ifgt, x_ifle, x_iceq, x_icne, x_iclt, x_icge, x_icgt, x_icle, x_ifnull, x_ifnonnull, x_ldi, x_lda, x_sti, x_sta, x_iinc, x_gf, x_pf, x_ald, x_ast, x_aln, x_len, x_cl_, x_cv, x_cs, x_rc, x_r0, x_isT, x_oi, x_rv, x_ri, x_ra, Value.category, t144_0, t144_1, t144_2, t144_5, t144_6, t144_7, t144_10, t144_13, t144_14, t144_15, t144_16, t144_17, t144_18, t144_19, t144_20, t144_21, t144_24, t144_25, t144_26, t144_27, t144_28, t144_31, t144_32, t144_33, t144_36, t144_37, t144_40, t144_42, t144_43, t144_44, t144_45, t144_46, t144_47, t144_49, t144_50, t144_53, t144_55, t144_56, t144_58, t144_61, t144_62, t144_65, t144_67, t144_68, t144_69, t144_70, t144_71, t144_72, t144_75, t144_76, t144_78, t144_79, t144_80, t144_83, t144_85, t144_86, t144_89, t144_90, t144_92, t144_95, t144_97, t144_98, t144_100, t144_102, t144_103, t144_104, t144_105, t144_108, t144_109, t144_111, t144_112, t144_113, t144_115, t144_118, t144_121, t144_122, t144_125, t144_126, t144_127, t144_128, t144_130, t144_132, t144_133, t144_136, t144_137, t144_140, t144_142, t144_143, t144_144, t144_146, t144_147, t144_148, t144_150, t144_151, t144_154, t144_155, t144_158, t144_160, t144_161, t144_162, t144_164, t144_165, t144_166, t144_167, t144_170, t144_172, t144_173, t144_174, t144_175, t144_176, t144_177, t144_180, t144_181, t144_182, t144_184, t144_187, t144_188, t144_189, t144_190, t144_193, t144_196, t144_197, t144_199, t144_201, t144_204, t144_207, t144_208, t144_211, t144_212, t144_213, t144_216, t144_219, t144_222, t144_225, t144_226, lk_s, hp_get, hp_set, uH_at, uH_ne, uH_upd, uH_swap, iZ_add, iZ_sub, iZ_mul, iZ_neg, iZ_lt, iZ_le, iZ_eq, iZ_div, iZ_of, ix_Z, gZ_map, gZ_mapI, gZ_map', le_0, le_s, sZ_map, sZ_len, bZ_0, bZ_inj, bZ_t, bZ_f, nr_i, nr_0, nr_1, nr_b, ft_i, ft_b, ft_0, ft_1, zl_0, zl_1, zl_7, zl_99, mF_len, mg_0, mg_1, mg_2, mg_3, mg_4, mg_5, mg_6, mg_7, mg_8, mg_9, mg_10, mg_11, mg_12, mg_13, mg_14, mg_15, mg_16, mg_17, mg_18, mg_19, mg_20, mg_21, mg_22, mg_23, mg_24, mg_25, mg_26, mg_27, mg_28, mg_29, mg_30, mg_31, mg_32, mg_33, mg_34, mg_35, mg_36, mg_37, mg_38, ms_0, ms_1, ms_2, ms_13, ms_14, ms_15, ms_16, ms_21, ms_22, ms_23, ms_24, ms_28, ms_36, ms_37, ms_38, st_at, st_ne, st_st, st_swap, l0, hm, -List.filter_filter, -List.getElem?_map, -List.getD_eq_getElem?_getD]
  have p0 : m1 0 = 0 := by rw [hm1e, st_at]
  have p1 : m1 1 = m 1 := by rw [hm1e]; exact st_ne (by decide)
  cases hin : inC Ds c with
  | false =>
    rw [hin, bZ_f] at X
    refine ⟨w1, m1, x, F1, hz, p0, p1, Xc.of rfl (by simp [lg_sl, Value.category]) (g5 _ ?_) (h.1.le hz.1 (fun j hj => by rw [F1 j hj]; exact Nat.le_refl _))⟩
    generalize lv_args 0 [.ref 30, .int (iZ c)] = lv at hc l0 l1
    refine Gx.fin 20 X (fun K mm => ?_)
    simp (disch := first | (refine c1_id ?_; assumption) | (refine c1_st rfl ?_; repeat (first | assumption | refine c1_st rfl ?_)) | omega) [nx_l, nx_r, nx_n, x_st, x_push, x_bin, x_div, x_un, x_dup, x_pop, x_dup2, x_goto, x_ifeq, x_ifne, x_iflt, x_ifge, x_ifgt, x_ifle, x_iceq, x_icne, x_iclt, x_icge, x_icgt, x_icle, x_ifnull, x_ifnonnull, x_ldi, x_lda, x_sti, x_sta, x_iinc, x_gf, x_pf, x_ald, x_ast, x_aln, x_len, x_cl_, x_cv, x_cs, x_rc, x_r0, x_isT, x_oi, x_rv, x_ri, x_ra, Value.category, t144_0, t144_1, t144_2, t144_5, t144_6, t144_7, t144_10, t144_13, t144_14, t144_15, t144_16, t144_17, t144_18, t144_19, t144_20, t144_21, t144_24, t144_25, t144_26, t144_27, t144_28, t144_31, t144_32, t144_33, t144_36, t144_37, t144_40, t144_42, t144_43, t144_44, t144_45, t144_46, t144_47, t144_49, t144_50, t144_53, t144_55, t144_56, t144_58, t144_61, t144_62, t144_65, t144_67, t144_68, t144_69, t144_70, t144_71, t144_72, t144_75, t144_76, t144_78, t144_79, t144_80, t144_83, t144_85, t144_86, t144_89, t144_90, t144_92, t144_95, t144_97, t144_98, t144_100, t144_102, t144_103, t144_104, t144_105, t144_108, t144_109, t144_111, t144_112, t144_113, t144_115, t144_118, t144_121, t144_122, t144_125, t144_126, t144_127, t144_128, t144_130, t144_132, t144_133, t144_136, t144_137, t144_140, t144_142, t144_143, t144_144, t144_146, t144_147, t144_148, t144_150, t144_151, t144_154, t144_155, t144_158, t144_160, t144_161, t144_162, t144_164, t144_165, t144_166, t144_167, t144_170, t144_172, t144_173, t144_174, t144_175, t144_176, t144_177, t144_180, t144_181, t144_182, t144_184, t144_187, t144_188, t144_189, t144_190, t144_193, t144_196, t144_197, t144_199, t144_201, t144_204, t144_207, t144_208, t144_211, t144_212, t144_213, t144_216, t144_219, t144_222, t144_225, t144_226, lk_s, hp_get, hp_set, uH_at, uH_ne, uH_upd, uH_swap, iZ_add, iZ_sub, iZ_mul, iZ_neg, iZ_lt, iZ_le, iZ_eq, iZ_div, iZ_of, ix_Z, gZ_map, gZ_mapI, gZ_map', le_0, le_s, sZ_map, sZ_len, bZ_0, bZ_inj, bZ_t, bZ_f, nr_i, nr_0, nr_1, nr_b, ft_i, ft_b, ft_0, ft_1, zl_0, zl_1, zl_7, zl_99, mF_len, mg_0, mg_1, mg_2, mg_3, mg_4, mg_5, mg_6, mg_7, mg_8, mg_9, mg_10, mg_11, mg_12, mg_13, mg_14, mg_15, mg_16, mg_17, mg_18, mg_19, mg_20, mg_21, mg_22, mg_23, mg_24, mg_25, mg_26, mg_27, mg_28, mg_29, mg_30, mg_31, mg_32, mg_33, mg_34, mg_35, mg_36, mg_37, mg_38, ms_0, ms_1, ms_2, ms_13, ms_14, ms_15, ms_16, ms_21, ms_22, ms_23, ms_24, ms_28, ms_36, ms_37, ms_38, st_at, st_ne, st_st, st_swap, l0, l1, hm1, mm, -List.filter_filter, -List.getElem?_map, -List.getD_eq_getElem?_getD]
  | true =>
    rw [hin, bZ_t] at X
    rw [Bool.true_and]
    have hc2 : 0 ≤ c ∧ c < Ds.length := by
      unfold inC at hin
      simpa using hin
    have hD : RD c (cl1 Ds c) x := hz.rd hc2.1 hc2.2
    obtain ⟨S, t1, t2, t3, t4, X2⟩ := A110 (d + 2) hN hz.1 hz.2.1 hD 0 0 (Or.inl rfl) (Or.inl rfl)
    rw [shH_0] at t3
    obtain ⟨w2, hw2⟩ : ∃ w2, w2 = uH w1 45 (cI 0 S) := ⟨_, rfl⟩
    have X2' : Xc (d + 3) 110 [.ref 30, .int (iZ c), .int (iZ 0), .int (iZ 0)] (hp w1 N) (none, hp w2 N) := by rw [hw2]; exact X2
    have R2 : RO w2 m1 (ux x 45 S) := by rw [hw2]; exact hz.1.set (j := 45) (by decide) t1
    have F2 : FrR w w2 := by rw [hw2]; exact F1.up (by decide) (by decide)
    have h8 := hz.2.2.2.2.2.2.2
    have S2 : RS w2 m1 (ux x 45 S) Ds T U := hz.mv R2 ⟨t2, hz.2.1.2⟩ (fun j j0 j1 => ux_ne (by omega)) rfl h8.1 h8.2.1 h8.2.2.1 h8.2.2.2
    have C2 := c1_st (i := 2) (v := .int (iZ 0)) rfl hc
    have C3 := c1_st (i := 3) (v := .int (iZ 0)) rfl C2
    have g := l144o d hN R2 (by rw [ux_at]; exact t2) hD.1 hD.2.1 (by rw [ux_at]; exact t3) (cl1 Ds c).length 0 false _ (by omega) C3 (by rw [lk_s C2, lk_s hc]; exact l0) (by rw [lk_s C2, lk_s hc]; exact l1) (by rw [lk_s C2, lk_s hc]; rfl) (by rw [lk_s C2]; rfl)
    refine ⟨w2, m1, _, F2, S2, p0, p1, Xc.of rfl (by simp [lg_sl, Value.category]) (g5 _ ?_) (h.1.le R2 (fun j hj => by rw [F2 j hj]; exact Nat.le_refl _))⟩
    generalize lv_args 0 [.ref 30, .int (iZ c)] = lv at hc l0 l1 C2 C3 g
    refine Gx.run 40 (X.and X2') (fun K mm => ?_) g
    obtain ⟨mm1, mm2⟩ := mm
    simp (disch := first | (refine c1_id ?_; assumption) | (refine c1_st rfl ?_; repeat (first | assumption | refine c1_st rfl ?_)) | omega) [nx_l, nx_r, nx_n, x_st, x_push, x_bin, x_div, x_un, x_dup, x_pop, x_dup2, x_goto, x_ifeq, x_ifne, x_iflt, x_ifge, x_ifgt, x_ifle, x_iceq, x_icne, x_iclt, x_icge, x_icgt, x_icle, x_ifnull, x_ifnonnull, x_ldi, x_lda, x_sti, x_sta, x_iinc, x_gf, x_pf, x_ald, x_ast, x_aln, x_len, x_cl_, x_cv, x_cs, x_rc, x_r0, x_isT, x_oi, x_rv, x_ri, x_ra, Value.category, t144_0, t144_1, t144_2, t144_5, t144_6, t144_7, t144_10, t144_13, t144_14, t144_15, t144_16, t144_17, t144_18, t144_19, t144_20, t144_21, t144_24, t144_25, t144_26, t144_27, t144_28, t144_31, t144_32, t144_33, t144_36, t144_37, t144_40, t144_42, t144_43, t144_44, t144_45, t144_46, t144_47, t144_49, t144_50, t144_53, t144_55, t144_56, t144_58, t144_61, t144_62, t144_65, t144_67, t144_68, t144_69, t144_70, t144_71, t144_72, t144_75, t144_76, t144_78, t144_79, t144_80, t144_83, t144_85, t144_86, t144_89, t144_90, t144_92, t144_95, t144_97, t144_98, t144_100, t144_102, t144_103, t144_104, t144_105, t144_108, t144_109, t144_111, t144_112, t144_113, t144_115, t144_118, t144_121, t144_122, t144_125, t144_126, t144_127, t144_128, t144_130, t144_132, t144_133, t144_136, t144_137, t144_140, t144_142, t144_143, t144_144, t144_146, t144_147, t144_148, t144_150, t144_151, t144_154, t144_155, t144_158, t144_160, t144_161, t144_162, t144_164, t144_165, t144_166, t144_167, t144_170, t144_172, t144_173, t144_174, t144_175, t144_176, t144_177, t144_180, t144_181, t144_182, t144_184, t144_187, t144_188, t144_189, t144_190, t144_193, t144_196, t144_197, t144_199, t144_201, t144_204, t144_207, t144_208, t144_211, t144_212, t144_213, t144_216, t144_219, t144_222, t144_225, t144_226, lk_s, hp_get, hp_set, uH_at, uH_ne, uH_upd, uH_swap, iZ_add, iZ_sub, iZ_mul, iZ_neg, iZ_lt, iZ_le, iZ_eq, iZ_div, iZ_of, ix_Z, gZ_map, gZ_mapI, gZ_map', le_0, le_s, sZ_map, sZ_len, bZ_0, bZ_inj, bZ_t, bZ_f, nr_i, nr_0, nr_1, nr_b, ft_i, ft_b, ft_0, ft_1, zl_0, zl_1, zl_7, zl_99, mF_len, mg_0, mg_1, mg_2, mg_3, mg_4, mg_5, mg_6, mg_7, mg_8, mg_9, mg_10, mg_11, mg_12, mg_13, mg_14, mg_15, mg_16, mg_17, mg_18, mg_19, mg_20, mg_21, mg_22, mg_23, mg_24, mg_25, mg_26, mg_27, mg_28, mg_29, mg_30, mg_31, mg_32, mg_33, mg_34, mg_35, mg_36, mg_37, mg_38, ms_0, ms_1, ms_2, ms_13, ms_14, ms_15, ms_16, ms_21, ms_22, ms_23, ms_24, ms_28, ms_36, ms_37, ms_38, st_at, st_ne, st_st, st_swap, l0, l1, hm1, mm1, mm2, -List.filter_filter, -List.getElem?_map, -List.getD_eq_getElem?_getD]
end TW
