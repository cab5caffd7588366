/-! the reference: whether a literal stands there already; literals ended; letters used -/
theorem f104_0 : x_fetch q_k104 0 = x_st (x_push 1 (.int (0))) := rfl
theorem t104_0 (C : xF) (s n : Nat) (z : xS) : x_to q_k104 C s (n + 1) 0 z = x_nx q_k104 C s n ((x_st (x_push 1 (.int (0)))) C z) := x_to_at f104_0 C s n z
theorem f104_1 : x_fetch q_k104 1 = x_sti 2 2 := rfl
theorem t104_1 (C : xF) (s n : Nat) (z : xS) : x_to q_k104 C s (n + 1) 1 z = x_nx q_k104 C s n ((x_sti 2 2) C z) := x_to_at f104_1 C s n z
theorem f104_2 : x_fetch q_k104 2 = x_lda 3 0 := rfl
theorem t104_2 (C : xF) (s n : Nat) (z : xS) : x_to q_k104 C s (n + 1) 2 z = x_nx q_k104 C s n ((x_lda 3 0) C z) := x_to_at f104_2 C s n z
theorem f104_3 : x_fetch q_k104 3 = x_gf 6 8 18 := rfl
theorem t104_3 (C : xF) (s n : Nat) (z : xS) : x_to q_k104 C s (n + 1) 3 z = x_nx q_k104 C s n ((x_gf 6 8 18) C z) := x_to_at f104_3 C s n z
theorem f104_6 : x_fetch q_k104 6 = x_ldi 7 1 := rfl
theorem t104_6 (C : xF) (s n : Nat) (z : xS) : x_to q_k104 C s (n + 1) 6 z = x_nx q_k104 C s n ((x_ldi 7 1) C z) := x_to_at f104_6 C s n z
theorem f104_7 : x_fetch q_k104 7 = x_st (x_push 8 (.int (1))) := rfl
theorem t104_7 (C : xF) (s n : Nat) (z : xS) : x_to q_k104 C s (n + 1) 7 z = x_nx q_k104 C s n ((x_st (x_push 8 (.int (1)))) C z) := x_to_at f104_7 C s n z
theorem f104_8 : x_fetch q_k104 8 = x_st (x_bin 9 (fun a b => a + b)) := rfl
theorem t104_8 (C : xF) (s n : Nat) (z : xS) : x_to q_k104 C s (n + 1) 8 z = x_nx q_k104 C s n ((x_st (x_bin 9 (fun a b => a + b))) C z) := x_to_at f104_8 C s n z
theorem f104_9 : x_fetch q_k104 9 = x_ald 10 0 := rfl
theorem t104_9 (C : xF) (s n : Nat) (z : xS) : x_to q_k104 C s (n + 1) 9 z = x_nx q_k104 C s n ((x_ald 10 0) C z) := x_to_at f104_9 C s n z
theorem f104_10 : x_fetch q_k104 10 = x_lda 11 0 := rfl
theorem t104_10 (C : xF) (s n : Nat) (z : xS) : x_to q_k104 C s (n + 1) 10 z = x_nx q_k104 C s n ((x_lda 11 0) C z) := x_to_at f104_10 C s n z
theorem f104_11 : x_fetch q_k104 11 = x_gf 14 8 18 := rfl
theorem t104_11 (C : xF) (s n : Nat) (z : xS) : x_to q_k104 C s (n + 1) 11 z = x_nx q_k104 C s n ((x_gf 14 8 18) C z) := x_to_at f104_11 C s n z
theorem f104_14 : x_fetch q_k104 14 = x_ldi 15 1 := rfl
theorem t104_14 (C : xF) (s n : Nat) (z : xS) : x_to q_k104 C s (n + 1) 14 z = x_nx q_k104 C s n ((x_ldi 15 1) C z) := x_to_at f104_14 C s n z
theorem f104_15 : x_fetch q_k104 15 = x_ald 16 0 := rfl
theorem t104_15 (C : xF) (s n : Nat) (z : xS) : x_to q_k104 C s (n + 1) 15 z = x_nx q_k104 C s n ((x_ald 16 0) C z) := x_to_at f104_15 C s n z
theorem f104_16 : x_fetch q_k104 16 = x_st (x_bin 17 (fun a b => a - b)) := rfl
theorem t104_16 (C : xF) (s n : Nat) (z : xS) : x_to q_k104 C s (n + 1) 16 z = x_nx q_k104 C s n ((x_st (x_bin 17 (fun a b => a - b))) C z) := x_to_at f104_16 C s n z
theorem f104_17 : x_fetch q_k104 17 = x_sti 18 3 := rfl
theorem t104_17 (C : xF) (s n : Nat) (z : xS) : x_to q_k104 C s (n + 1) 17 z = x_nx q_k104 C s n ((x_sti 18 3) C z) := x_to_at f104_17 C s n z
theorem f104_18 : x_fetch q_k104 18 = x_st (x_push 19 (.int (0))) := rfl
theorem t104_18 (C : xF) (s n : Nat) (z : xS) : x_to q_k104 C s (n + 1) 18 z = x_nx q_k104 C s n ((x_st (x_push 19 (.int (0)))) C z) := x_to_at f104_18 C s n z
theorem f104_19 : x_fetch q_k104 19 = x_sti 21 4 := rfl
theorem t104_19 (C : xF) (s n : Nat) (z : xS) : x_to q_k104 C s (n + 1) 19 z = x_nx q_k104 C s n ((x_sti 21 4) C z) := x_to_at f104_19 C s n z
theorem f104_21 : x_fetch q_k104 21 = x_ldi 23 4 := rfl
theorem t104_21 (C : xF) (s n : Nat) (z : xS) : x_to q_k104 C s (n + 1) 21 z = x_nx q_k104 C s n ((x_ldi 23 4) C z) := x_to_at f104_21 C s n z
theorem f104_23 : x_fetch q_k104 23 = x_ldi 24 1 := rfl
theorem t104_23 (C : xF) (s n : Nat) (z : xS) : x_to q_k104 C s (n + 1) 23 z = x_nx q_k104 C s n ((x_ldi 24 1) C z) := x_to_at f104_23 C s n z
theorem f104_24 : x_fetch q_k104 24 = x_st (x_icge 137 27) := rfl
theorem t104_24 (C : xF) (s n : Nat) (z : xS) : x_to q_k104 C s (n + 1) 24 z = x_nx q_k104 C s n ((x_st (x_icge 137 27)) C z) := x_to_at f104_24 C s n z
theorem f104_27 : x_fetch q_k104 27 = x_ldi 28 2 := rfl
theorem t104_27 (C : xF) (s n : Nat) (z : xS) : x_to q_k104 C s (n + 1) 27 z = x_nx q_k104 C s n ((x_ldi 28 2) C z) := x_to_at f104_27 C s n z
theorem f104_28 : x_fetch q_k104 28 = x_st (x_ifne 137 31) := rfl
theorem t104_28 (C : xF) (s n : Nat) (z : xS) : x_to q_k104 C s (n + 1) 28 z = x_nx q_k104 C s n ((x_st (x_ifne 137 31)) C z) := x_to_at f104_28 C s n z
theorem f104_31 : x_fetch q_k104 31 = x_lda 32 0 := rfl
theorem t104_31 (C : xF) (s n : Nat) (z : xS) : x_to q_k104 C s (n + 1) 31 z = x_nx q_k104 C s n ((x_lda 32 0) C z) := x_to_at f104_31 C s n z
theorem f104_32 : x_fetch q_k104 32 = x_gf 35 8 20 := rfl
theorem t104_32 (C : xF) (s n : Nat) (z : xS) : x_to q_k104 C s (n + 1) 32 z = x_nx q_k104 C s n ((x_gf 35 8 20) C z) := x_to_at f104_32 C s n z
theorem f104_35 : x_fetch q_k104 35 = x_ldi 37 4 := rfl
theorem t104_35 (C : xF) (s n : Nat) (z : xS) : x_to q_k104 C s (n + 1) 35 z = x_nx q_k104 C s n ((x_ldi 37 4) C z) := x_to_at f104_35 C s n z
theorem f104_37 : x_fetch q_k104 37 = x_ald 38 1 := rfl
theorem t104_37 (C : xF) (s n : Nat) (z : xS) : x_to q_k104 C s (n + 1) 37 z = x_nx q_k104 C s n ((x_ald 38 1) C z) := x_to_at f104_37 C s n z
theorem f104_38 : x_fetch q_k104 38 = x_lda 39 0 := rfl
theorem t104_38 (C : xF) (s n : Nat) (z : xS) : x_to q_k104 C s (n + 1) 38 z = x_nx q_k104 C s n ((x_lda 39 0) C z) := x_to_at f104_38 C s n z
theorem f104_39 : x_fetch q_k104 39 = x_gf 42 8 20 := rfl
theorem t104_39 (C : xF) (s n : Nat) (z : xS) : x_to q_k104 C s (n + 1) 39 z = x_nx q_k104 C s n ((x_gf 42 8 20) C z) := x_to_at f104_39 C s n z
theorem f104_42 : x_fetch q_k104 42 = x_ldi 43 1 := rfl
theorem t104_42 (C : xF) (s n : Nat) (z : xS) : x_to q_k104 C s (n + 1) 42 z = x_nx q_k104 C s n ((x_ldi 43 1) C z) := x_to_at f104_42 C s n z
theorem f104_43 : x_fetch q_k104 43 = x_ald 44 1 := rfl
theorem t104_43 (C : xF) (s n : Nat) (z : xS) : x_to q_k104 C s (n + 1) 43 z = x_nx q_k104 C s n ((x_ald 44 1) C z) := x_to_at f104_43 C s n z
theorem f104_44 : x_fetch q_k104 44 = x_st (x_icne 72 47) := rfl
theorem t104_44 (C : xF) (s n : Nat) (z : xS) : x_to q_k104 C s (n + 1) 44 z = x_nx q_k104 C s n ((x_st (x_icne 72 47)) C z) := x_to_at f104_44 C s n z
theorem f104_47 : x_fetch q_k104 47 = x_lda 48 0 := rfl
theorem t104_47 (C : xF) (s n : Nat) (z : xS) : x_to q_k104 C s (n + 1) 47 z = x_nx q_k104 C s n ((x_lda 48 0) C z) := x_to_at f104_47 C s n z
theorem f104_48 : x_fetch q_k104 48 = x_gf 51 8 18 := rfl
theorem t104_48 (C : xF) (s n : Nat) (z : xS) : x_to q_k104 C s (n + 1) 48 z = x_nx q_k104 C s n ((x_gf 51 8 18) C z) := x_to_at f104_48 C s n z
theorem f104_51 : x_fetch q_k104 51 = x_ldi 53 4 := rfl
theorem t104_51 (C : xF) (s n : Nat) (z : xS) : x_to q_k104 C s (n + 1) 51 z = x_nx q_k104 C s n ((x_ldi 53 4) C z) := x_to_at f104_51 C s n z
theorem f104_53 : x_fetch q_k104 53 = x_st (x_push 54 (.int (1))) := rfl
theorem t104_53 (C : xF) (s n : Nat) (z : xS) : x_to q_k104 C s (n + 1) 53 z = x_nx q_k104 C s n ((x_st (x_push 54 (.int (1)))) C z) := x_to_at f104_53 C s n z
theorem f104_54 : x_fetch q_k104 54 = x_st (x_bin 55 (fun a b => a + b)) := rfl
theorem t104_54 (C : xF) (s n : Nat) (z : xS) : x_to q_k104 C s (n + 1) 54 z = x_nx q_k104 C s n ((x_st (x_bin 55 (fun a b => a + b))) C z) := x_to_at f104_54 C s n z
theorem f104_55 : x_fetch q_k104 55 = x_ald 56 0 := rfl
theorem t104_55 (C : xF) (s n : Nat) (z : xS) : x_to q_k104 C s (n + 1) 55 z = x_nx q_k104 C s n ((x_ald 56 0) C z) := x_to_at f104_55 C s n z
theorem f104_56 : x_fetch q_k104 56 = x_lda 57 0 := rfl
theorem t104_56 (C : xF) (s n : Nat) (z : xS) : x_to q_k104 C s (n + 1) 56 z = x_nx q_k104 C s n ((x_lda 57 0) C z) := x_to_at f104_56 C s n z
theorem f104_57 : x_fetch q_k104 57 = x_gf 60 8 18 := rfl
theorem t104_57 (C : xF) (s n : Nat) (z : xS) : x_to q_k104 C s (n + 1) 57 z = x_nx q_k104 C s n ((x_gf 60 8 18) C z) := x_to_at f104_57 C s n z
theorem f104_60 : x_fetch q_k104 60 = x_ldi 62 4 := rfl
theorem t104_60 (C : xF) (s n : Nat) (z : xS) : x_to q_k104 C s (n + 1) 60 z = x_nx q_k104 C s n ((x_ldi 62 4) C z) := x_to_at f104_60 C s n z
theorem f104_62 : x_fetch q_k104 62 = x_ald 63 0 := rfl
theorem t104_62 (C : xF) (s n : Nat) (z : xS) : x_to q_k104 C s (n + 1) 62 z = x_nx q_k104 C s n ((x_ald 63 0) C z) := x_to_at f104_62 C s n z
theorem f104_63 : x_fetch q_k104 63 = x_st (x_bin 64 (fun a b => a - b)) := rfl
theorem t104_63 (C : xF) (s n : Nat) (z : xS) : x_to q_k104 C s (n + 1) 63 z = x_nx q_k104 C s n ((x_st (x_bin 64 (fun a b => a - b))) C z) := x_to_at f104_63 C s n z
theorem f104_64 : x_fetch q_k104 64 = x_ldi 65 3 := rfl
theorem t104_64 (C : xF) (s n : Nat) (z : xS) : x_to q_k104 C s (n + 1) 64 z = x_nx q_k104 C s n ((x_ldi 65 3) C z) := x_to_at f104_64 C s n z
theorem f104_65 : x_fetch q_k104 65 = x_st (x_icne 72 68) := rfl
theorem t104_65 (C : xF) (s n : Nat) (z : xS) : x_to q_k104 C s (n + 1) 65 z = x_nx q_k104 C s n ((x_st (x_icne 72 68)) C z) := x_to_at f104_65 C s n z
theorem f104_68 : x_fetch q_k104 68 = x_st (x_push 69 (.int (1))) := rfl
theorem t104_68 (C : xF) (s n : Nat) (z : xS) : x_to q_k104 C s (n + 1) 68 z = x_nx q_k104 C s n ((x_st (x_push 69 (.int (1)))) C z) := x_to_at f104_68 C s n z
theorem f104_69 : x_fetch q_k104 69 = x_st (x_goto 73) := rfl
theorem t104_69 (C : xF) (s n : Nat) (z : xS) : x_to q_k104 C s (n + 1) 69 z = x_nx q_k104 C s n ((x_st (x_goto 73)) C z) := x_to_at f104_69 C s n z
theorem f104_72 : x_fetch q_k104 72 = x_st (x_push 73 (.int (0))) := rfl
theorem t104_72 (C : xF) (s n : Nat) (z : xS) : x_to q_k104 C s (n + 1) 72 z = x_nx q_k104 C s n ((x_st (x_push 73 (.int (0)))) C z) := x_to_at f104_72 C s n z
theorem f104_73 : x_fetch q_k104 73 = x_sti 74 2 := rfl
theorem t104_73 (C : xF) (s n : Nat) (z : xS) : x_to q_k104 C s (n + 1) 73 z = x_nx q_k104 C s n ((x_sti 74 2) C z) := x_to_at f104_73 C s n z
theorem f104_74 : x_fetch q_k104 74 = x_st (x_push 75 (.int (0))) := rfl
theorem t104_74 (C : xF) (s n : Nat) (z : xS) : x_to q_k104 C s (n + 1) 74 z = x_nx q_k104 C s n ((x_st (x_push 75 (.int (0)))) C z) := x_to_at f104_74 C s n z
theorem f104_75 : x_fetch q_k104 75 = x_sti 77 5 := rfl
theorem t104_75 (C : xF) (s n : Nat) (z : xS) : x_to q_k104 C s (n + 1) 75 z = x_nx q_k104 C s n ((x_sti 77 5) C z) := x_to_at f104_75 C s n z
theorem f104_77 : x_fetch q_k104 77 = x_ldi 79 5 := rfl
theorem t104_77 (C : xF) (s n : Nat) (z : xS) : x_to q_k104 C s (n + 1) 77 z = x_nx q_k104 C s n ((x_ldi 79 5) C z) := x_to_at f104_77 C s n z
theorem f104_79 : x_fetch q_k104 79 = x_ldi 80 3 := rfl
theorem t104_79 (C : xF) (s n : Nat) (z : xS) : x_to q_k104 C s (n + 1) 79 z = x_nx q_k104 C s n ((x_ldi 80 3) C z) := x_to_at f104_79 C s n z
theorem f104_80 : x_fetch q_k104 80 = x_st (x_icge 131 83) := rfl
theorem t104_80 (C : xF) (s n : Nat) (z : xS) : x_to q_k104 C s (n + 1) 80 z = x_nx q_k104 C s n ((x_st (x_icge 131 83)) C z) := x_to_at f104_80 C s n z
theorem f104_83 : x_fetch q_k104 83 = x_ldi 84 2 := rfl
theorem t104_83 (C : xF) (s n : Nat) (z : xS) : x_to q_k104 C s (n + 1) 83 z = x_nx q_k104 C s n ((x_ldi 84 2) C z) := x_to_at f104_83 C s n z
theorem f104_84 : x_fetch q_k104 84 = x_st (x_ifeq 131 87) := rfl
theorem t104_84 (C : xF) (s n : Nat) (z : xS) : x_to q_k104 C s (n + 1) 84 z = x_nx q_k104 C s n ((x_st (x_ifeq 131 87)) C z) := x_to_at f104_84 C s n z
theorem f104_87 : x_fetch q_k104 87 = x_lda 88 0 := rfl
theorem t104_87 (C : xF) (s n : Nat) (z : xS) : x_to q_k104 C s (n + 1) 87 z = x_nx q_k104 C s n ((x_lda 88 0) C z) := x_to_at f104_87 C s n z
theorem f104_88 : x_fetch q_k104 88 = x_gf 91 8 17 := rfl
theorem t104_88 (C : xF) (s n : Nat) (z : xS) : x_to q_k104 C s (n + 1) 88 z = x_nx q_k104 C s n ((x_gf 91 8 17) C z) := x_to_at f104_88 C s n z
theorem f104_91 : x_fetch q_k104 91 = x_lda 92 0 := rfl
theorem t104_91 (C : xF) (s n : Nat) (z : xS) : x_to q_k104 C s (n + 1) 91 z = x_nx q_k104 C s n ((x_lda 92 0) C z) := x_to_at f104_91 C s n z
theorem f104_92 : x_fetch q_k104 92 = x_gf 95 8 18 := rfl
theorem t104_92 (C : xF) (s n : Nat) (z : xS) : x_to q_k104 C s (n + 1) 92 z = x_nx q_k104 C s n ((x_gf 95 8 18) C z) := x_to_at f104_92 C s n z
theorem f104_95 : x_fetch q_k104 95 = x_ldi 97 4 := rfl
theorem t104_95 (C : xF) (s n : Nat) (z : xS) : x_to q_k104 C s (n + 1) 95 z = x_nx q_k104 C s n ((x_ldi 97 4) C z) := x_to_at f104_95 C s n z
theorem f104_97 : x_fetch q_k104 97 = x_ald 98 0 := rfl
theorem t104_97 (C : xF) (s n : Nat) (z : xS) : x_to q_k104 C s (n + 1) 97 z = x_nx q_k104 C s n ((x_ald 98 0) C z) := x_to_at f104_97 C s n z
theorem f104_98 : x_fetch q_k104 98 = x_ldi 100 5 := rfl
theorem t104_98 (C : xF) (s n : Nat) (z : xS) : x_to q_k104 C s (n + 1) 98 z = x_nx q_k104 C s n ((x_ldi 100 5) C z) := x_to_at f104_98 C s n z
theorem f104_100 : x_fetch q_k104 100 = x_st (x_bin 101 (fun a b => a + b)) := rfl
theorem t104_100 (C : xF) (s n : Nat) (z : xS) : x_to q_k104 C s (n + 1) 100 z = x_nx q_k104 C s n ((x_st (x_bin 101 (fun a b => a + b))) C z) := x_to_at f104_100 C s n z
theorem f104_101 : x_fetch q_k104 101 = x_ald 102 0 := rfl
theorem t104_101 (C : xF) (s n : Nat) (z : xS) : x_to q_k104 C s (n + 1) 101 z = x_nx q_k104 C s n ((x_ald 102 0) C z) := x_to_at f104_101 C s n z
theorem f104_102 : x_fetch q_k104 102 = x_lda 103 0 := rfl
theorem t104_102 (C : xF) (s n : Nat) (z : xS) : x_to q_k104 C s (n + 1) 102 z = x_nx q_k104 C s n ((x_lda 103 0) C z) := x_to_at f104_102 C s n z
theorem f104_103 : x_fetch q_k104 103 = x_gf 106 8 17 := rfl
theorem t104_103 (C : xF) (s n : Nat) (z : xS) : x_to q_k104 C s (n + 1) 103 z = x_nx q_k104 C s n ((x_gf 106 8 17) C z) := x_to_at f104_103 C s n z
theorem f104_106 : x_fetch q_k104 106 = x_lda 107 0 := rfl
theorem t104_106 (C : xF) (s n : Nat) (z : xS) : x_to q_k104 C s (n + 1) 106 z = x_nx q_k104 C s n ((x_lda 107 0) C z) := x_to_at f104_106 C s n z
theorem f104_107 : x_fetch q_k104 107 = x_gf 110 8 18 := rfl
theorem t104_107 (C : xF) (s n : Nat) (z : xS) : x_to q_k104 C s (n + 1) 107 z = x_nx q_k104 C s n ((x_gf 110 8 18) C z) := x_to_at f104_107 C s n z
theorem f104_110 : x_fetch q_k104 110 = x_ldi 111 1 := rfl
theorem t104_110 (C : xF) (s n : Nat) (z : xS) : x_to q_k104 C s (n + 1) 110 z = x_nx q_k104 C s n ((x_ldi 111 1) C z) := x_to_at f104_110 C s n z
theorem f104_111 : x_fetch q_k104 111 = x_ald 112 0 := rfl
theorem t104_111 (C : xF) (s n : Nat) (z : xS) : x_to q_k104 C s (n + 1) 111 z = x_nx q_k104 C s n ((x_ald 112 0) C z) := x_to_at f104_111 C s n z
theorem f104_112 : x_fetch q_k104 112 = x_ldi 114 5 := rfl
theorem t104_112 (C : xF) (s n : Nat) (z : xS) : x_to q_k104 C s (n + 1) 112 z = x_nx q_k104 C s n ((x_ldi 114 5) C z) := x_to_at f104_112 C s n z
theorem f104_114 : x_fetch q_k104 114 = x_st (x_bin 115 (fun a b => a + b)) := rfl
theorem t104_114 (C : xF) (s n : Nat) (z : xS) : x_to q_k104 C s (n + 1) 114 z = x_nx q_k104 C s n ((x_st (x_bin 115 (fun a b => a + b))) C z) := x_to_at f104_114 C s n z
theorem f104_115 : x_fetch q_k104 115 = x_ald 116 0 := rfl
theorem t104_115 (C : xF) (s n : Nat) (z : xS) : x_to q_k104 C s (n + 1) 115 z = x_nx q_k104 C s n ((x_ald 116 0) C z) := x_to_at f104_115 C s n z
theorem f104_116 : x_fetch q_k104 116 = x_st (x_icne 123 119) := rfl
theorem t104_116 (C : xF) (s n : Nat) (z : xS) : x_to q_k104 C s (n + 1) 116 z = x_nx q_k104 C s n ((x_st (x_icne 123 119)) C z) := x_to_at f104_116 C s n z
theorem f104_119 : x_fetch q_k104 119 = x_st (x_push 120 (.int (1))) := rfl
theorem t104_119 (C : xF) (s n : Nat) (z : xS) : x_to q_k104 C s (n + 1) 119 z = x_nx q_k104 C s n ((x_st (x_push 120 (.int (1)))) C z) := x_to_at f104_119 C s n z
theorem f104_120 : x_fetch q_k104 120 = x_st (x_goto 124) := rfl
theorem t104_120 (C : xF) (s n : Nat) (z : xS) : x_to q_k104 C s (n + 1) 120 z = x_nx q_k104 C s n ((x_st (x_goto 124)) C z) := x_to_at f104_120 C s n z
theorem f104_123 : x_fetch q_k104 123 = x_st (x_push 124 (.int (0))) := rfl
theorem t104_123 (C : xF) (s n : Nat) (z : xS) : x_to q_k104 C s (n + 1) 123 z = x_nx q_k104 C s n ((x_st (x_push 124 (.int (0)))) C z) := x_to_at f104_123 C s n z
theorem f104_124 : x_fetch q_k104 124 = x_sti 125 2 := rfl
theorem t104_124 (C : xF) (s n : Nat) (z : xS) : x_to q_k104 C s (n + 1) 124 z = x_nx q_k104 C s n ((x_sti 125 2) C z) := x_to_at f104_124 C s n z
theorem f104_125 : x_fetch q_k104 125 = x_iinc 128 5 (1) := rfl
theorem t104_125 (C : xF) (s n : Nat) (z : xS) : x_to q_k104 C s (n + 1) 125 z = x_nx q_k104 C s n ((x_iinc 128 5 (1)) C z) := x_to_at f104_125 C s n z
theorem f104_128 : x_fetch q_k104 128 = x_st (x_goto 77) := rfl
theorem t104_128 (C : xF) (s n : Nat) (z : xS) : x_to q_k104 C s (n + 1) 128 z = x_nx q_k104 C s n ((x_st (x_goto 77)) C z) := x_to_at f104_128 C s n z
theorem f104_131 : x_fetch q_k104 131 = x_iinc 134 4 (1) := rfl
theorem t104_131 (C : xF) (s n : Nat) (z : xS) : x_to q_k104 C s (n + 1) 131 z = x_nx q_k104 C s n ((x_iinc 134 4 (1)) C z) := x_to_at f104_131 C s n z
theorem f104_134 : x_fetch q_k104 134 = x_st (x_goto 21) := rfl
theorem t104_134 (C : xF) (s n : Nat) (z : xS) : x_to q_k104 C s (n + 1) 134 z = x_nx q_k104 C s n ((x_st (x_goto 21)) C z) := x_to_at f104_134 C s n z
theorem f104_137 : x_fetch q_k104 137 = x_ldi 138 2 := rfl
theorem t104_137 (C : xF) (s n : Nat) (z : xS) : x_to q_k104 C s (n + 1) 137 z = x_nx q_k104 C s n ((x_ldi 138 2) C z) := x_to_at f104_137 C s n z
theorem f104_138 : x_fetch q_k104 138 = x_ri (.boolean) := rfl
theorem t104_138 (C : xF) (s n : Nat) (z : xS) : x_to q_k104 C s (n + 1) 138 z = x_nx q_k104 C s n ((x_ri (.boolean)) C z) := x_to_at f104_138 C s n z
theorem f99_0 : x_fetch q_k99 0 = x_lda 1 0 := rfl
theorem t99_0 (C : xF) (s n : Nat) (z : xS) : x_to q_k99 C s (n + 1) 0 z = x_nx q_k99 C s n ((x_lda 1 0) C z) := x_to_at f99_0 C s n z
theorem f99_1 : x_fetch q_k99 1 = x_lda 2 0 := rfl
theorem t99_1 (C : xF) (s n : Nat) (z : xS) : x_to q_k99 C s (n + 1) 1 z = x_nx q_k99 C s n ((x_lda 2 0) C z) := x_to_at f99_1 C s n z
theorem f99_2 : x_fetch q_k99 2 = x_gf 5 8 16 := rfl
theorem t99_2 (C : xF) (s n : Nat) (z : xS) : x_to q_k99 C s (n + 1) 2 z = x_nx q_k99 C s n ((x_gf 5 8 16) C z) := x_to_at f99_2 C s n z
theorem f99_5 : x_fetch q_k99 5 = x_st (x_ifne 27 8) := rfl
theorem t99_5 (C : xF) (s n : Nat) (z : xS) : x_to q_k99 C s (n + 1) 5 z = x_nx q_k99 C s n ((x_st (x_ifne 27 8)) C z) := x_to_at f99_5 C s n z
theorem f99_8 : x_fetch q_k99 8 = x_lda 9 0 := rfl
theorem t99_8 (C : xF) (s n : Nat) (z : xS) : x_to q_k99 C s (n + 1) 8 z = x_nx q_k99 C s n ((x_lda 9 0) C z) := x_to_at f99_8 C s n z
theorem f99_9 : x_fetch q_k99 9 = x_gf 12 8 11 := rfl
theorem t99_9 (C : xF) (s n : Nat) (z : xS) : x_to q_k99 C s (n + 1) 9 z = x_nx q_k99 C s n ((x_gf 12 8 11) C z) := x_to_at f99_9 C s n z
theorem f99_12 : x_fetch q_k99 12 = x_ldi 13 1 := rfl
theorem t99_12 (C : xF) (s n : Nat) (z : xS) : x_to q_k99 C s (n + 1) 12 z = x_nx q_k99 C s n ((x_ldi 13 1) C z) := x_to_at f99_12 C s n z
theorem f99_13 : x_fetch q_k99 13 = x_ald 14 0 := rfl
theorem t99_13 (C : xF) (s n : Nat) (z : xS) : x_to q_k99 C s (n + 1) 13 z = x_nx q_k99 C s n ((x_ald 14 0) C z) := x_to_at f99_13 C s n z
theorem f99_14 : x_fetch q_k99 14 = x_st (x_ifeq 31 17) := rfl
theorem t99_14 (C : xF) (s n : Nat) (z : xS) : x_to q_k99 C s (n + 1) 14 z = x_nx q_k99 C s n ((x_st (x_ifeq 31 17)) C z) := x_to_at f99_14 C s n z
theorem f99_17 : x_fetch q_k99 17 = x_lda 18 0 := rfl
theorem t99_17 (C : xF) (s n : Nat) (z : xS) : x_to q_k99 C s (n + 1) 17 z = x_nx q_k99 C s n ((x_lda 18 0) C z) := x_to_at f99_17 C s n z
theorem f99_18 : x_fetch q_k99 18 = x_gf 21 8 11 := rfl
theorem t99_18 (C : xF) (s n : Nat) (z : xS) : x_to q_k99 C s (n + 1) 18 z = x_nx q_k99 C s n ((x_gf 21 8 11) C z) := x_to_at f99_18 C s n z
theorem f99_21 : x_fetch q_k99 21 = x_ldi 22 1 := rfl
theorem t99_21 (C : xF) (s n : Nat) (z : xS) : x_to q_k99 C s (n + 1) 21 z = x_nx q_k99 C s n ((x_ldi 22 1) C z) := x_to_at f99_21 C s n z
theorem f99_22 : x_fetch q_k99 22 = x_ald 23 0 := rfl
theorem t99_22 (C : xF) (s n : Nat) (z : xS) : x_to q_k99 C s (n + 1) 22 z = x_nx q_k99 C s n ((x_ald 23 0) C z) := x_to_at f99_22 C s n z
theorem f99_23 : x_fetch q_k99 23 = x_ldi 24 2 := rfl
theorem t99_23 (C : xF) (s n : Nat) (z : xS) : x_to q_k99 C s (n + 1) 23 z = x_nx q_k99 C s n ((x_ldi 24 2) C z) := x_to_at f99_23 C s n z
theorem f99_24 : x_fetch q_k99 24 = x_st (x_iceq 31 27) := rfl
theorem t99_24 (C : xF) (s n : Nat) (z : xS) : x_to q_k99 C s (n + 1) 24 z = x_nx q_k99 C s n ((x_st (x_iceq 31 27)) C z) := x_to_at f99_24 C s n z
theorem f99_27 : x_fetch q_k99 27 = x_st (x_push 28 (.int (1))) := rfl
theorem t99_27 (C : xF) (s n : Nat) (z : xS) : x_to q_k99 C s (n + 1) 27 z = x_nx q_k99 C s n ((x_st (x_push 28 (.int (1)))) C z) := x_to_at f99_27 C s n z
theorem f99_28 : x_fetch q_k99 28 = x_st (x_goto 32) := rfl
theorem t99_28 (C : xF) (s n : Nat) (z : xS) : x_to q_k99 C s (n + 1) 28 z = x_nx q_k99 C s n ((x_st (x_goto 32)) C z) := x_to_at f99_28 C s n z
theorem f99_31 : x_fetch q_k99 31 = x_st (x_push 32 (.int (0))) := rfl
theorem t99_31 (C : xF) (s n : Nat) (z : xS) : x_to q_k99 C s (n + 1) 31 z = x_nx q_k99 C s n ((x_st (x_push 32 (.int (0)))) C z) := x_to_at f99_31 C s n z
theorem f99_32 : x_fetch q_k99 32 = x_pf 35 8 16 (.boolean) := rfl
theorem t99_32 (C : xF) (s n : Nat) (z : xS) : x_to q_k99 C s (n + 1) 32 z = x_nx q_k99 C s n ((x_pf 35 8 16 (.boolean)) C z) := x_to_at f99_32 C s n z
theorem f99_35 : x_fetch q_k99 35 = x_lda 36 0 := rfl
theorem t99_35 (C : xF) (s n : Nat) (z : xS) : x_to q_k99 C s (n + 1) 35 z = x_nx q_k99 C s n ((x_lda 36 0) C z) := x_to_at f99_35 C s n z
theorem f99_36 : x_fetch q_k99 36 = x_gf 39 8 11 := rfl
theorem t99_36 (C : xF) (s n : Nat) (z : xS) : x_to q_k99 C s (n + 1) 36 z = x_nx q_k99 C s n ((x_gf 39 8 11) C z) := x_to_at f99_36 C s n z
theorem f99_39 : x_fetch q_k99 39 = x_ldi 40 1 := rfl
theorem t99_39 (C : xF) (s n : Nat) (z : xS) : x_to q_k99 C s (n + 1) 39 z = x_nx q_k99 C s n ((x_ldi 40 1) C z) := x_to_at f99_39 C s n z
theorem f99_40 : x_fetch q_k99 40 = x_ldi 41 2 := rfl
theorem t99_40 (C : xF) (s n : Nat) (z : xS) : x_to q_k99 C s (n + 1) 40 z = x_nx q_k99 C s n ((x_ldi 41 2) C z) := x_to_at f99_40 C s n z
theorem f99_41 : x_fetch q_k99 41 = x_ast 42 0 (fun x => x) := rfl
theorem t99_41 (C : xF) (s n : Nat) (z : xS) : x_to q_k99 C s (n + 1) 41 z = x_nx q_k99 C s n ((x_ast 42 0 (fun x => x)) C z) := x_to_at f99_41 C s n z
theorem f99_42 : x_fetch q_k99 42 = x_rv := rfl
theorem t99_42 (C : xF) (s n : Nat) (z : xS) : x_to q_k99 C s (n + 1) 42 z = x_nx q_k99 C s n ((x_rv) C z) := x_to_at f99_42 C s n z
def twF (f : Int → Bool) : Nat → Int → Bool
  | 0, _ => false
  | r + 1, q => f q || twF f r (q + 1)
def sameL (R Sa Mi : List Int) (k n q : Int) : Bool := decide (gZ Mi q = gZ Mi k) && decide (gZ Sa (q + 1) - gZ Sa q = n) && ssZ R (gZ Sa q) (gZ Sa k) n.toNat
section TW
variable {w : Nat → xC} {N : Nat} {m : Nat → Int} {R Sa Mi Us : List Int} {B K : Int}
theorem l104_77 (d : Nat) (hN : 53 ≤ N) (hm : w 27 = .inr (8, mF m)) (hR : w 38 = cI 0 R) (s1 : R.length = 600) (hA : w 39 = cI 0 Sa) (s2 : Sa.length = 14) (hr : ∀ i, 0 ≤ i → i < B → 0 ≤ gZ R i ∧ gZ R i < 100000) (hB : B ≤ 500) (k n q : Int) (k0 : 0 ≤ k) (k1 : k < 13) (q0 : 0 ≤ q) (q1 : q < 13) (n0 : 0 ≤ n) (n1 : n ≤ 100) (a0 : 0 ≤ gZ Sa q) (a1 : gZ Sa q + n ≤ B) (b0 : 0 ≤ gZ Sa k) (b1 : gZ Sa k + n ≤ B) : ∀ (r : Nat) (i : Int) (lv : xL), i + r = n → 0 ≤ i → c1 lv → x_lk lv 0 = some (.ref 30) → x_lk lv 1 = some (.int (iZ k)) → x_lk lv 2 = some (.int (iZ 1)) → x_lk lv 3 = some (.int (iZ n)) → x_lk lv 4 = some (.int (iZ q)) → x_lk lv 5 = some (.int (iZ i)) →
    ∃ lv', c1 lv' ∧ x_lk lv' 0 = some (.ref 30) ∧ x_lk lv' 1 = some (.int (iZ k)) ∧ x_lk lv' 2 = some (.int (iZ (bZ (ssZ R (gZ Sa q + i) (gZ Sa k + i) r)))) ∧ x_lk lv' 3 = some (.int (iZ n)) ∧ x_lk lv' 4 = some (.int (iZ q)) ∧ ∀ res, Gx q_k104 d 131 (lv', [], hp w N) res → Gx q_k104 d 77 (lv, [], hp w N) res := by
  intro r
  induction r with
  | zero =>
    intro i lv hi i0 hc l0 l1 l2 l3 l4 l5
    refine ⟨lv, hc, l0, l1, l2, l3, l4, fun res k3 => Gx.run 20 Cs.tt (fun C _ => ?_) k3⟩
    have z1 : n ≤ i := by omega
    simp (disch := first | (refine c1_id ?_; assumption) | (refine c1_st rfl ?_; repeat (first | assumption | refine c1_st rfl ?_)) | omega) [nx_l, nx_r, nx_n, x_st, x_push, x_bin, x_div, x_un, x_dup, x_pop, x_dup2, x_goto, x_ifeq, x_ifne, x_iflt, x_ifge, x_ifgt, x_ifle, x_iceq, x_icne, x_iclt, x_icge, x_icgt, x_icle, x_ifnull, x_ifnonnull, x_ldi, x_lda, x_sti, x_sta, x_iinc, x_gf, x_pf, x_ald, x_ast, x_aln, x_len, x_cl_, x_cv, x_cs, x_rc, x_r0, x_isT, x_oi, x_rv, x_ri, x_ra, Value.category, t104_0, t104_1, t104_2, t104_3, t104_6, t104_7, t104_8, t104_9, t104_10, t104_11, t104_14, t104_15, t104_16, t104_17, t104_18, t104_19, t104_21, t104_23, t104_24, t104_27, t104_28, t104_31, t104_32, t104_35, t104_37, t104_38, t104_39, t104_42, t104_43, t104_44, t104_47, t104_48, t104_51, t104_53, t104_54, t104_55, t104_56, t104_57, t104_60, t104_62, t104_63, t104_64, t104_65, t104_68, t104_69, t104_72, t104_73, t104_74, t104_75, t104_77, t104_79, t104_80, t104_83, t104_84, t104_87, t104_88, t104_91, t104_92, t104_95, t104_97, t104_98, t104_100, t104_101, t104_102, t104_103, t104_106, t104_107, t104_110, t104_111, t104_112, t104_114, t104_115, t104_116, t104_119, t104_120, t104_123, t104_124, t104_125, t104_128, t104_131, t104_134, t104_137, t104_138, lk_s, hp_get, hp_set, uH_at, uH_ne, uH_upd, uH_swap, iZ_add, iZ_sub, iZ_mul, iZ_neg, iZ_lt, iZ_le, iZ_eq, iZ_div, iZ_of, ix_Z, gZ_map, gZ_mapI, gZ_map', le_0, le_s, sZ_map, sZ_len, bZ_0, bZ_inj, bZ_t, bZ_f, nr_i, nr_0, nr_1, nr_b, ft_i, ft_b, ft_0, ft_1, zl_0, zl_1, mF_len, mg_0, mg_1, mg_2, mg_3, mg_4, mg_5, mg_6, mg_7, mg_8, mg_9, mg_10, mg_11, mg_12, mg_13, mg_14, mg_15, mg_16, mg_17, mg_18, mg_19, mg_20, mg_21, mg_22, mg_23, mg_24, mg_25, mg_26, mg_27, mg_28, mg_29, mg_30, mg_31, mg_32, mg_33, mg_34, mg_35, mg_36, mg_37, mg_38, ms_0, ms_1, ms_2, ms_13, ms_14, ms_15, ms_16, ms_21, ms_22, ms_23, ms_24, ms_28, ms_36, ms_37, ms_38, st_at, st_ne, st_st, st_swap, l0, l3, l5, z1, -List.filter_filter, -List.getElem?_map, -List.getD_eq_getElem?_getD]
  | succ r ih =>
    intro i lv hi i0 hc l0 l1 l2 l3 l4 l5
    have z1 : ¬ n ≤ i := by omega
    have y1 := hr (gZ Sa q + i) (by omega) (by omega)
    have y2 := hr (gZ Sa k + i) (by omega) (by omega)
    by_cases h : gZ R (gZ Sa q + i) = gZ R (gZ Sa k + i)
    · have e : ssZ R (gZ Sa q + i) (gZ Sa k + i) (r + 1) = ssZ R (gZ Sa q + (i + 1)) (gZ Sa k + (i + 1)) r := by
        show (decide (gZ R (gZ Sa q + i) = gZ R (gZ Sa k + i)) && ssZ R (gZ Sa q + i + 1) (gZ Sa k + i + 1) r) = _
        rw [decide_eq_true h, Int.add_assoc, Int.add_assoc]
        rfl
      rw [e]
      have C1 := c1_st (i := 2) (v := .int (iZ 1)) rfl hc
      have C2 := c1_st (i := 5) (v := .int (iZ (i + 1))) rfl C1
      obtain ⟨lv', g1, g2, g3, g4, g5, g6, g7⟩ := ih (i + 1) _ (by omega) (by omega) C2 (by rw [lk_s C1, lk_s hc]; exact l0) (by rw [lk_s C1, lk_s hc]; exact l1) (by rw [lk_s C1, lk_s hc]; rfl) (by rw [lk_s C1, lk_s hc]; exact l3) (by rw [lk_s C1, lk_s hc]; exact l4) (by rw [lk_s C1]; rfl)
      refine ⟨lv', g1, g2, g3, g4, g5, g6, fun res k3 => Gx.run 80 Cs.tt (fun C _ => ?_) (g7 res k3)⟩
      simp (disch := first | (refine c1_id ?_; assumption) | (refine c1_st rfl ?_; repeat (first | assumption | refine c1_st rfl ?_)) | omega) [nx_l, nx_r, nx_n, x_st, x_push, x_bin, x_div, x_un, x_dup, x_pop, x_dup2, x_goto, x_ifeq, x_ifne, x_iflt, x_ifge, x_ifgt, x_ifle, x_iceq, x_icne, x_iclt, x_icge, x_icgt, x_icle, x_ifnull, x_ifnonnull, x_ldi, x_lda, x_sti, x_sta, x_iinc, x_gf, x_pf, x_ald, x_ast, x_aln, x_len, x_cl_, x_cv, x_cs, x_rc, x_r0, x_isT, x_oi, x_rv, x_ri, x_ra, Value.category, t104_0, t104_1, t104_2, t104_3, t104_6, t104_7, t104_8, t104_9, t104_10, t104_11, t104_14, t104_15, t104_16, t104_17, t104_18, t104_19, t104_21, t104_23, t104_24, t104_27, t104_28, t104_31, t104_32, t104_35, t104_37, t104_38, t104_39, t104_42, t104_43, t104_44, t104_47, t104_48, t104_51, t104_53, t104_54, t104_55, t104_56, t104_57, t104_60, t104_62, t104_63, t104_64, t104_65, t104_68, t104_69, t104_72, t104_73, t104_74, t104_75, t104_77, t104_79, t104_80, t104_83, t104_84, t104_87, t104_88, t104_91, t104_92, t104_95, t104_97, t104_98, t104_100, t104_101, t104_102, t104_103, t104_106, t104_107, t104_110, t104_111, t104_112, t104_114, t104_115, t104_116, t104_119, t104_120, t104_123, t104_124, t104_125, t104_128, t104_131, t104_134, t104_137, t104_138, lk_s, hp_get, hp_set, uH_at, uH_ne, uH_upd, uH_swap, iZ_add, iZ_sub, iZ_mul, iZ_neg, iZ_lt, iZ_le, iZ_eq, iZ_div, iZ_of, ix_Z, gZ_map, gZ_mapI, gZ_map', le_0, le_s, sZ_map, sZ_len, bZ_0, bZ_inj, bZ_t, bZ_f, nr_i, nr_0, nr_1, nr_b, ft_i, ft_b, ft_0, ft_1, zl_0, zl_1, mF_len, mg_0, mg_1, mg_2, mg_3, mg_4, mg_5, mg_6, mg_7, mg_8, mg_9, mg_10, mg_11, mg_12, mg_13, mg_14, mg_15, mg_16, mg_17, mg_18, mg_19, mg_20, mg_21, mg_22, mg_23, mg_24, mg_25, mg_26, mg_27, mg_28, mg_29, mg_30, mg_31, mg_32, mg_33, mg_34, mg_35, mg_36, mg_37, mg_38, ms_0, ms_1, ms_2, ms_13, ms_14, ms_15, ms_16, ms_21, ms_22, ms_23, ms_24, ms_28, ms_36, ms_37, ms_38, st_at, st_ne, st_st, st_swap, l0, l1, l2, l3, l4, l5, hm, hR, hA, z1, h, -List.filter_filter, -List.getElem?_map, -List.getD_eq_getElem?_getD]
    · have e : ssZ R (gZ Sa q + i) (gZ Sa k + i) (r + 1) = false := by
        show (decide (gZ R (gZ Sa q + i) = gZ R (gZ Sa k + i)) && ssZ R (gZ Sa q + i + 1) (gZ Sa k + i + 1) r) = _
        rw [decide_eq_false h]
        rfl
      rw [e]
      have C1 := c1_st (i := 2) (v := .int (iZ 0)) rfl hc
      have C2 := c1_st (i := 5) (v := .int (iZ (i + 1))) rfl C1
      refine ⟨_, C2, by rw [lk_s C1, lk_s hc]; exact l0, by rw [lk_s C1, lk_s hc]; exact l1, by rw [lk_s C1, lk_s hc]; rfl, by rw [lk_s C1, lk_s hc]; exact l3, by rw [lk_s C1, lk_s hc]; exact l4, fun res k3 => Gx.run 80 Cs.tt (fun C _ => ?_) k3⟩
      by_cases z2 : n ≤ i + 1
      · simp (disch := first | (refine c1_id ?_; assumption) | (refine c1_st rfl ?_; repeat (first | assumption | refine c1_st rfl ?_)) | omega) [nx_l, nx_r, nx_n, x_st, x_push, x_bin, x_div, x_un, x_dup, x_pop, x_dup2, x_goto, x_ifeq, x_ifne, x_iflt, x_ifge, x_ifgt, x_ifle, x_iceq, x_icne, x_iclt, x_icge, x_icgt, x_icle, x_ifnull, x_ifnonnull, x_ldi, x_lda, x_sti, x_sta, x_iinc, x_gf, x_pf, x_ald, x_ast, x_aln, x_len, x_cl_, x_cv, x_cs, x_rc, x_r0, x_isT, x_oi, x_rv, x_ri, x_ra, Value.category, t104_0, t104_1, t104_2, t104_3, t104_6, t104_7, t104_8, t104_9, t104_10, t104_11, t104_14, t104_15, t104_16, t104_17, t104_18, t104_19, t104_21, t104_23, t104_24, t104_27, t104_28, t104_31, t104_32, t104_35, t104_37, t104_38, t104_39, t104_42, t104_43, t104_44, t104_47, t104_48, t104_51, t104_53, t104_54, t104_55, t104_56, t104_57, t104_60, t104_62, t104_63, t104_64, t104_65, t104_68, t104_69, t104_72, t104_73, t104_74, t104_75, t104_77, t104_79, t104_80, t104_83, t104_84, t104_87, t104_88, t104_91, t104_92, t104_95, t104_97, t104_98, t104_100, t104_101, t104_102, t104_103, t104_106, t104_107, t104_110, t104_111, t104_112, t104_114, t104_115, t104_116, t104_119, t104_120, t104_123, t104_124, t104_125, t104_128, t104_131, t104_134, t104_137, t104_138, lk_s, hp_get, hp_set, uH_at, uH_ne, uH_upd, uH_swap, iZ_add, iZ_sub, iZ_mul, iZ_neg, iZ_lt, iZ_le, iZ_eq, iZ_div, iZ_of, ix_Z, gZ_map, gZ_mapI, gZ_map', le_0, le_s, sZ_map, sZ_len, bZ_0, bZ_inj, bZ_t, bZ_f, nr_i, nr_0, nr_1, nr_b, ft_i, ft_b, ft_0, ft_1, zl_0, zl_1, mF_len, mg_0, mg_1, mg_2, mg_3, mg_4, mg_5, mg_6, mg_7, mg_8, mg_9, mg_10, mg_11, mg_12, mg_13, mg_14, mg_15, mg_16, mg_17, mg_18, mg_19, mg_20, mg_21, mg_22, mg_23, mg_24, mg_25, mg_26, mg_27, mg_28, mg_29, mg_30, mg_31, mg_32, mg_33, mg_34, mg_35, mg_36, mg_37, mg_38, ms_0, ms_1, ms_2, ms_13, ms_14, ms_15, ms_16, ms_21, ms_22, ms_23, ms_24, ms_28, ms_36, ms_37, ms_38, st_at, st_ne, st_st, st_swap, l0, l1, l2, l3, l4, l5, hm, hR, hA, z1, z2, h, -List.filter_filter, -List.getElem?_map, -List.getD_eq_getElem?_getD]
      · simp (disch := first | (refine c1_id ?_; assumption) | (refine c1_st rfl ?_; repeat (first | assumption | refine c1_st rfl ?_)) | omega) [nx_l, nx_r, nx_n, x_st, x_push, x_bin, x_div, x_un, x_dup, x_pop, x_dup2, x_goto, x_ifeq, x_ifne, x_iflt, x_ifge, x_ifgt, x_ifle, x_iceq, x_icne, x_iclt, x_icge, x_icgt, x_icle, x_ifnull, x_ifnonnull, x_ldi, x_lda, x_sti, x_sta, x_iinc, x_gf, x_pf, x_ald, x_ast, x_aln, x_len, x_cl_, x_cv, x_cs, x_rc, x_r0, x_isT, x_oi, x_rv, x_ri, x_ra, Value.category, t104_0, t104_1, t104_2, t104_3, t104_6, t104_7, t104_8, t104_9, t104_10, t104_11, t104_14, t104_15, t104_16, t104_17, t104_18, t104_19, t104_21, t104_23, t104_24, t104_27, t104_28, t104_31, t104_32, t104_35, t104_37, t104_38, t104_39, t104_42, t104_43, t104_44, t104_47, t104_48, t104_51, t104_53, t104_54, t104_55, t104_56, t104_57, t104_60, t104_62, t104_63, t104_64, t104_65, t104_68, t104_69, t104_72, t104_73, t104_74, t104_75, t104_77, t104_79, t104_80, t104_83, t104_84, t104_87, t104_88, t104_91, t104_92, t104_95, t104_97, t104_98, t104_100, t104_101, t104_102, t104_103, t104_106, t104_107, t104_110, t104_111, t104_112, t104_114, t104_115, t104_116, t104_119, t104_120, t104_123, t104_124, t104_125, t104_128, t104_131, t104_134, t104_137, t104_138, lk_s, hp_get, hp_set, uH_at, uH_ne, uH_upd, uH_swap, iZ_add, iZ_sub, iZ_mul, iZ_neg, iZ_lt, iZ_le, iZ_eq, iZ_div, iZ_of, ix_Z, gZ_map, gZ_mapI, gZ_map', le_0, le_s, sZ_map, sZ_len, bZ_0, bZ_inj, bZ_t, bZ_f, nr_i, nr_0, nr_1, nr_b, ft_i, ft_b, ft_0, ft_1, zl_0, zl_1, mF_len, mg_0, mg_1, mg_2, mg_3, mg_4, mg_5, mg_6, mg_7, mg_8, mg_9, mg_10, mg_11, mg_12, mg_13, mg_14, mg_15, mg_16, mg_17, mg_18, mg_19, mg_20, mg_21, mg_22, mg_23, mg_24, mg_25, mg_26, mg_27, mg_28, mg_29, mg_30, mg_31, mg_32, mg_33, mg_34, mg_35, mg_36, mg_37, mg_38, ms_0, ms_1, ms_2, ms_13, ms_14, ms_15, ms_16, ms_21, ms_22, ms_23, ms_24, ms_28, ms_36, ms_37, ms_38, st_at, st_ne, st_st, st_swap, l0, l1, l2, l3, l4, l5, hm, hR, hA, z1, z2, h, -List.filter_filter, -List.getElem?_map, -List.getD_eq_getElem?_getD]
theorem l104_21 (d : Nat) (hN : 53 ≤ N) (hm : w 27 = .inr (8, mF m)) (hR : w 38 = cI 0 R) (s1 : R.length = 600) (hA : w 39 = cI 0 Sa) (s2 : Sa.length = 14) (hM : w 41 = cI 1 Mi) (s3 : Mi.length = 14) (hr : ∀ i, 0 ≤ i → i < B → 0 ≤ gZ R i ∧ gZ R i < 100000) (hB : B ≤ 500) (hs : ∀ i, 0 ≤ i → i ≤ K → 0 ≤ gZ Sa i ∧ gZ Sa i ≤ B) (hmi : ∀ i, 0 ≤ i → i ≤ K → gZ Mi i = 0 ∨ gZ Mi i = 1) (k n : Int) (k0 : 0 ≤ k) (k1 : k < 13) (kK : k ≤ K) (n0 : 0 ≤ n) (n1 : n ≤ 100) (b9 : gZ Sa k + n ≤ B) : ∀ (r : Nat) (q : Int) (lv : xL), q + r = k → 0 ≤ q → c1 lv → x_lk lv 0 = some (.ref 30) → x_lk lv 1 = some (.int (iZ k)) → x_lk lv 2 = some (.int (iZ 0)) → x_lk lv 3 = some (.int (iZ n)) → x_lk lv 4 = some (.int (iZ q)) →
    Gx q_k104 d 21 (lv, [], hp w N) (some (.int (iZ (bZ (twF (sameL R Sa Mi k n) r q)))), hp w N) := by
  intro r
  induction r with
  | zero =>
    intro q lv hq q0 hc l0 l1 l2 l3 l4
    refine Gx.fin 20 Cs.tt (fun C _ => ?_)
    have z1 : k ≤ q := by omega
    have e : twF (sameL R Sa Mi k n) 0 q = false := rfl
    simp (disch := first | (refine c1_id ?_; assumption) | (refine c1_st rfl ?_; repeat (first | assumption | refine c1_st rfl ?_)) | omega) [nx_l, nx_r, nx_n, x_st, x_push, x_bin, x_div, x_un, x_dup, x_pop, x_dup2, x_goto, x_ifeq, x_ifne, x_iflt, x_ifge, x_ifgt, x_ifle, x_iceq, x_icne, x_iclt, x_icge, x_icgt, x_icle, x_ifnull, x_ifnonnull, x_ldi, x_lda, x_sti, x_sta, x_iinc, x_gf, x_pf, x_ald, x_ast, x_aln, x_len, x_cl_, x_cv, x_cs, x_rc, x_r0, x_isT, x_oi, x_rv, x_ri, x_ra, Value.category, t104_0, t104_1, t104_2, t104_3, t104_6, t104_7, t104_8, t104_9, t104_10, t104_11, t104_14, t104_15, t104_16, t104_17, t104_18, t104_19, t104_21, t104_23, t104_24, t104_27, t104_28, t104_31, t104_32, t104_35, t104_37, t104_38, t104_39, t104_42, t104_43, t104_44, t104_47, t104_48, t104_51, t104_53, t104_54, t104_55, t104_56, t104_57, t104_60, t104_62, t104_63, t104_64, t104_65, t104_68, t104_69, t104_72, t104_73, t104_74, t104_75, t104_77, t104_79, t104_80, t104_83, t104_84, t104_87, t104_88, t104_91, t104_92, t104_95, t104_97, t104_98, t104_100, t104_101, t104_102, t104_103, t104_106, t104_107, t104_110, t104_111, t104_112, t104_114, t104_115, t104_116, t104_119, t104_120, t104_123, t104_124, t104_125, t104_128, t104_131, t104_134, t104_137, t104_138, lk_s, hp_get, hp_set, uH_at, uH_ne, uH_upd, uH_swap, iZ_add, iZ_sub, iZ_mul, iZ_neg, iZ_lt, iZ_le, iZ_eq, iZ_div, iZ_of, ix_Z, gZ_map, gZ_mapI, gZ_map', le_0, le_s, sZ_map, sZ_len, bZ_0, bZ_inj, bZ_t, bZ_f, nr_i, nr_0, nr_1, nr_b, ft_i, ft_b, ft_0, ft_1, zl_0, zl_1, mF_len, mg_0, mg_1, mg_2, mg_3, mg_4, mg_5, mg_6, mg_7, mg_8, mg_9, mg_10, mg_11, mg_12, mg_13, mg_14, mg_15, mg_16, mg_17, mg_18, mg_19, mg_20, mg_21, mg_22, mg_23, mg_24, mg_25, mg_26, mg_27, mg_28, mg_29, mg_30, mg_31, mg_32, mg_33, mg_34, mg_35, mg_36, mg_37, mg_38, ms_0, ms_1, ms_2, ms_13, ms_14, ms_15, ms_16, ms_21, ms_22, ms_23, ms_24, ms_28, ms_36, ms_37, ms_38, st_at, st_ne, st_st, st_swap, l0, l1, l2, l4, z1, e, -List.filter_filter, -List.getElem?_map, -List.getD_eq_getElem?_getD]
  | succ r ih =>
    intro q lv hq q0 hc l0 l1 l2 l3 l4
    have z1 : ¬ k ≤ q := by omega
    have y1 := hs q q0 (by omega)
    have y2 := hs (q + 1) (by omega) (by omega)
    have y3 := hs k k0 (by omega)
    have y4 := hmi q q0 (by omega)
    have y5 := hmi k k0 (by omega)
    by_cases hc1 : gZ Mi q = gZ Mi k ∧ gZ Sa (q + 1) - gZ Sa q = n
    · have C1 := c1_st (i := 2) (v := .int (iZ 1)) rfl hc
      have C2 := c1_st (i := 5) (v := .int (iZ 0)) rfl C1
      obtain ⟨lv', g1, g2, g3, g4, g5, g6, g7⟩ := l104_77 d hN hm hR s1 hA s2 hr hB k n q k0 k1 q0 (by omega) n0 n1 y1.1 (by omega) y3.1 (by omega) n.toNat 0 _ (by omega) (by omega) C2 (by rw [lk_s C1, lk_s hc]; exact l0) (by rw [lk_s C1, lk_s hc]; exact l1) (by rw [lk_s C1, lk_s hc]; rfl) (by rw [lk_s C1, lk_s hc]; exact l3) (by rw [lk_s C1, lk_s hc]; exact l4) (by rw [lk_s C1]; rfl)
      rw [Int.add_zero, Int.add_zero] at g4
      have eL : sameL R Sa Mi k n q = ssZ R (gZ Sa q) (gZ Sa k) n.toNat := by
        unfold sameL
        rw [decide_eq_true hc1.1, decide_eq_true hc1.2]
        rfl
      have go : ∀ res, Gx q_k104 d 131 (lv', [], hp w N) res → Gx q_k104 d 21 (lv, [], hp w N) res := fun res k3 => Gx.run 80 Cs.tt (fun C _ => by
        have h1 := hc1.1
        have h2 := hc1.2
        simp (disch := first | (refine c1_id ?_; assumption) | (refine c1_st rfl ?_; repeat (first | assumption | refine c1_st rfl ?_)) | omega) [nx_l, nx_r, nx_n, x_st, x_push, x_bin, x_div, x_un, x_dup, x_pop, x_dup2, x_goto, x_ifeq, x_ifne, x_iflt, x_ifge, x_ifgt, x_ifle, x_iceq, x_icne, x_iclt, x_icge, x_icgt, x_icle, x_ifnull, x_ifnonnull, x_ldi, x_lda, x_sti, x_sta, x_iinc, x_gf, x_pf, x_ald, x_ast, x_aln, x_len, x_cl_, x_cv, x_cs, x_rc, x_r0, x_isT, x_oi, x_rv, x_ri, x_ra, Value.category, t104_0, t104_1, t104_2, t104_3, t104_6, t104_7, t104_8, t104_9, t104_10, t104_11, t104_14, t104_15, t104_16, t104_17, t104_18, t104_19, t104_21, t104_23, t104_24, t104_27, t104_28, t104_31, t104_32, t104_35, t104_37, t104_38, t104_39, t104_42, t104_43, t104_44, t104_47, t104_48, t104_51, t104_53, t104_54, t104_55, t104_56, t104_57, t104_60, t104_62, t104_63, t104_64, t104_65, t104_68, t104_69, t104_72, t104_73, t104_74, t104_75, t104_77, t104_79, t104_80, t104_83, t104_84, t104_87, t104_88, t104_91, t104_92, t104_95, t104_97, t104_98, t104_100, t104_101, t104_102, t104_103, t104_106, t104_107, t104_110, t104_111, t104_112, t104_114, t104_115, t104_116, t104_119, t104_120, t104_123, t104_124, t104_125, t104_128, t104_131, t104_134, t104_137, t104_138, lk_s, hp_get, hp_set, uH_at, uH_ne, uH_upd, uH_swap, iZ_add, iZ_sub, iZ_mul, iZ_neg, iZ_lt, iZ_le, iZ_eq, iZ_div, iZ_of, ix_Z, gZ_map, gZ_mapI, gZ_map', le_0, le_s, sZ_map, sZ_len, bZ_0, bZ_inj, bZ_t, bZ_f, nr_i, nr_0, nr_1, nr_b, ft_i, ft_b, ft_0, ft_1, zl_0, zl_1, mF_len, mg_0, mg_1, mg_2, mg_3, mg_4, mg_5, mg_6, mg_7, mg_8, mg_9, mg_10, mg_11, mg_12, mg_13, mg_14, mg_15, mg_16, mg_17, mg_18, mg_19, mg_20, mg_21, mg_22, mg_23, mg_24, mg_25, mg_26, mg_27, mg_28, mg_29, mg_30, mg_31, mg_32, mg_33, mg_34, mg_35, mg_36, mg_37, mg_38, ms_0, ms_1, ms_2, ms_13, ms_14, ms_15, ms_16, ms_21, ms_22, ms_23, ms_24, ms_28, ms_36, ms_37, ms_38, st_at, st_ne, st_st, st_swap, l0, l1, l2, l3, l4, hm, hA, hM, z1, h1, h2, -List.filter_filter, -List.getElem?_map, -List.getD_eq_getElem?_getD]) (g7 res k3)
      cases hss : ssZ R (gZ Sa q) (gZ Sa k) n.toNat with
      | true =>
        rw [hss] at g4 eL
        have e : twF (sameL R Sa Mi k n) (r + 1) q = true := by
          show (sameL R Sa Mi k n q || _) = true
          rw [eL]
          rfl
        rw [e]
        refine go _ (Gx.fin 40 Cs.tt (fun C _ => ?_))
        by_cases z2 : k ≤ q + 1
        · simp (disch := first | (refine c1_id ?_; assumption) | (refine c1_st rfl ?_; repeat (first | assumption | refine c1_st rfl ?_)) | omega) [nx_l, nx_r, nx_n, x_st, x_push, x_bin, x_div, x_un, x_dup, x_pop, x_dup2, x_goto, x_ifeq, x_ifne, x_iflt, x_ifge, x_ifgt, x_ifle, x_iceq, x_icne, x_iclt, x_icge, x_icgt, x_icle, x_ifnull, x_ifnonnull, x_ldi, x_lda, x_sti, x_sta, x_iinc, x_gf, x_pf, x_ald, x_ast, x_aln, x_len, x_cl_, x_cv, x_cs, x_rc, x_r0, x_isT, x_oi, x_rv, x_ri, x_ra, Value.category, t104_0, t104_1, t104_2, t104_3, t104_6, t104_7, t104_8, t104_9, t104_10, t104_11, t104_14, t104_15, t104_16, t104_17, t104_18, t104_19, t104_21, t104_23, t104_24, t104_27, t104_28, t104_31, t104_32, t104_35, t104_37, t104_38, t104_39, t104_42, t104_43, t104_44, t104_47, t104_48, t104_51, t104_53, t104_54, t104_55, t104_56, t104_57, t104_60, t104_62, t104_63, t104_64, t104_65, t104_68, t104_69, t104_72, t104_73, t104_74, t104_75, t104_77, t104_79, t104_80, t104_83, t104_84, t104_87, t104_88, t104_91, t104_92, t104_95, t104_97, t104_98, t104_100, t104_101, t104_102, t104_103, t104_106, t104_107, t104_110, t104_111, t104_112, t104_114, t104_115, t104_116, t104_119, t104_120, t104_123, t104_124, t104_125, t104_128, t104_131, t104_134, t104_137, t104_138, lk_s, hp_get, hp_set, uH_at, uH_ne, uH_upd, uH_swap, iZ_add, iZ_sub, iZ_mul, iZ_neg, iZ_lt, iZ_le, iZ_eq, iZ_div, iZ_of, ix_Z, gZ_map, gZ_mapI, gZ_map', le_0, le_s, sZ_map, sZ_len, bZ_0, bZ_inj, bZ_t, bZ_f, nr_i, nr_0, nr_1, nr_b, ft_i, ft_b, ft_0, ft_1, zl_0, zl_1, mF_len, mg_0, mg_1, mg_2, mg_3, mg_4, mg_5, mg_6, mg_7, mg_8, mg_9, mg_10, mg_11, mg_12, mg_13, mg_14, mg_15, mg_16, mg_17, mg_18, mg_19, mg_20, mg_21, mg_22, mg_23, mg_24, mg_25, mg_26, mg_27, mg_28, mg_29, mg_30, mg_31, mg_32, mg_33, mg_34, mg_35, mg_36, mg_37, mg_38, ms_0, ms_1, ms_2, ms_13, ms_14, ms_15, ms_16, ms_21, ms_22, ms_23, ms_24, ms_28, ms_36, ms_37, ms_38, st_at, st_ne, st_st, st_swap, g2, g3, g4, g5, g6, z2, -List.filter_filter, -List.getElem?_map, -List.getD_eq_getElem?_getD]
        · simp (disch := first | (refine c1_id ?_; assumption) | (refine c1_st rfl ?_; repeat (first | assumption | refine c1_st rfl ?_)) | omega) [nx_l, nx_r, nx_n, x_st, x_push, x_bin, x_div, x_un, x_dup, x_pop, x_dup2, x_goto, x_ifeq, x_ifne, x_iflt, x_ifge, x_ifgt, x_ifle, x_iceq, x_icne, x_iclt, x_icge, x_icgt, x_icle, x_ifnull, x_ifnonnull, x_ldi, x_lda, x_sti, x_sta, x_iinc, x_gf, x_pf, x_ald, x_ast, x_aln, x_len, x_cl_, x_cv, x_cs, x_rc, x_r0, x_isT, x_oi, x_rv, x_ri, x_ra, Value.category, t104_0, t104_1, t104_2, t104_3, t104_6, t104_7, t104_8, t104_9, t104_10, t104_11, t104_14, t104_15, t104_16, t104_17, t104_18, t104_19, t104_21, t104_23, t104_24, t104_27, t104_28, t104_31, t104_32, t104_35, t104_37, t104_38, t104_39, t104_42, t104_43, t104_44, t104_47, t104_48, t104_51, t104_53, t104_54, t104_55, t104_56, t104_57, t104_60, t104_62, t104_63, t104_64, t104_65, t104_68, t104_69, t104_72, t104_73, t104_74, t104_75, t104_77, t104_79, t104_80, t104_83, t104_84, t104_87, t104_88, t104_91, t104_92, t104_95, t104_97, t104_98, t104_100, t104_101, t104_102, t104_103, t104_106, t104_107, t104_110, t104_111, t104_112, t104_114, t104_115, t104_116, t104_119, t104_120, t104_123, t104_124, t104_125, t104_128, t104_131, t104_134, t104_137, t104_138, lk_s, hp_get, hp_set, uH_at, uH_ne, uH_upd, uH_swap, iZ_add, iZ_sub, iZ_mul, iZ_neg, iZ_lt, iZ_le, iZ_eq, iZ_div, iZ_of, ix_Z, gZ_map, gZ_mapI, gZ_map', le_0, le_s, sZ_map, sZ_len, bZ_0, bZ_inj, bZ_t, bZ_f, nr_i, nr_0, nr_1, nr_b, ft_i, ft_b, ft_0, ft_1, zl_0, zl_1, mF_len, mg_0, mg_1, mg_2, mg_3, mg_4, mg_5, mg_6, mg_7, mg_8, mg_9, mg_10, mg_11, mg_12, mg_13, mg_14, mg_15, mg_16, mg_17, mg_18, mg_19, mg_20, mg_21, mg_22, mg_23, mg_24, mg_25, mg_26, mg_27, mg_28, mg_29, mg_30, mg_31, mg_32, mg_33, mg_34, mg_35, mg_36, mg_37, mg_38, ms_0, ms_1, ms_2, ms_13, ms_14, ms_15, ms_16, ms_21, ms_22, ms_23, ms_24, ms_28, ms_36, ms_37, ms_38, st_at, st_ne, st_st, st_swap, g2, g3, g4, g5, g6, z2, -List.filter_filter, -List.getElem?_map, -List.getD_eq_getElem?_getD]
      | false =>
        rw [hss] at g4 eL
        have e : twF (sameL R Sa Mi k n) (r + 1) q = twF (sameL R Sa Mi k n) r (q + 1) := by
          show (sameL R Sa Mi k n q || _) = _
          rw [eL]
          rfl
        rw [e]
        have C3 := c1_st (i := 4) (v := .int (iZ (q + 1))) rfl g1
        have k3 := ih (q + 1) _ (by omega) (by omega) C3 (by rw [lk_s g1]; exact g2) (by rw [lk_s g1]; exact g3) (by rw [lk_s g1]; exact g4) (by rw [lk_s g1]; exact g5) (by rw [lk_s g1]; rfl)
        refine go _ (Gx.run 20 Cs.tt (fun C _ => ?_) k3)
        simp (disch := first | (refine c1_id ?_; assumption) | (refine c1_st rfl ?_; repeat (first | assumption | refine c1_st rfl ?_)) | omega) [nx_l, nx_r, nx_n, x_st, x_push, x_bin, x_div, x_un, x_dup, x_pop, x_dup2, x_goto, x_ifeq, x_ifne, x_iflt, x_ifge, x_ifgt, x_ifle, x_iceq, x_icne, x_iclt, x_icge, x_icgt, x_icle, x_ifnull, x_ifnonnull, x_ldi, x_lda, x_sti, x_sta, x_iinc, x_gf, x_pf, x_ald, x_ast, x_aln, x_len, x_cl_, x_cv, x_cs, x_rc, x_r0, x_isT, x_oi, x_rv, x_ri, x_ra, Value.category, t104_0, t104_1, t104_2, t104_3, t104_6, t104_7, t104_8, t104_9, t104_10, t104_11, t104_14, t104_15, t104_16, t104_17, t104_18, t104_19, t104_21, t104_23, t104_24, t104_27, t104_28, t104_31, t104_32, t104_35, t104_37, t104_38, t104_39, t104_42, t104_43, t104_44, t104_47, t104_48, t104_51, t104_53, t104_54, t104_55, t104_56, t104_57, t104_60, t104_62, t104_63, t104_64, t104_65, t104_68, t104_69, t104_72, t104_73, t104_74, t104_75, t104_77, t104_79, t104_80, t104_83, t104_84, t104_87, t104_88, t104_91, t104_92, t104_95, t104_97, t104_98, t104_100, t104_101, t104_102, t104_103, t104_106, t104_107, t104_110, t104_111, t104_112, t104_114, t104_115, t104_116, t104_119, t104_120, t104_123, t104_124, t104_125, t104_128, t104_131, t104_134, t104_137, t104_138, lk_s, hp_get, hp_set, uH_at, uH_ne, uH_upd, uH_swap, iZ_add, iZ_sub, iZ_mul, iZ_neg, iZ_lt, iZ_le, iZ_eq, iZ_div, iZ_of, ix_Z, gZ_map, gZ_mapI, gZ_map', le_0, le_s, sZ_map, sZ_len, bZ_0, bZ_inj, bZ_t, bZ_f, nr_i, nr_0, nr_1, nr_b, ft_i, ft_b, ft_0, ft_1, zl_0, zl_1, mF_len, mg_0, mg_1, mg_2, mg_3, mg_4, mg_5, mg_6, mg_7, mg_8, mg_9, mg_10, mg_11, mg_12, mg_13, mg_14, mg_15, mg_16, mg_17, mg_18, mg_19, mg_20, mg_21, mg_22, mg_23, mg_24, mg_25, mg_26, mg_27, mg_28, mg_29, mg_30, mg_31, mg_32, mg_33, mg_34, mg_35, mg_36, mg_37, mg_38, ms_0, ms_1, ms_2, ms_13, ms_14, ms_15, ms_16, ms_21, ms_22, ms_23, ms_24, ms_28, ms_36, ms_37, ms_38, st_at, st_ne, st_st, st_swap, g2, g6, -List.filter_filter, -List.getElem?_map, -List.getD_eq_getElem?_getD]
    · have eL : sameL R Sa Mi k n q = false := by
        unfold sameL
        by_cases h1 : gZ Mi q = gZ Mi k
        · rw [decide_eq_false (fun z => hc1 ⟨h1, z⟩)]
          simp
        · rw [decide_eq_false h1]
          rfl
      have e : twF (sameL R Sa Mi k n) (r + 1) q = twF (sameL R Sa Mi k n) r (q + 1) := by
        show (sameL R Sa Mi k n q || _) = _
        rw [eL]
        rfl
      rw [e]
      have C1 := c1_st (i := 2) (v := .int (iZ 0)) rfl hc
      have C2 := c1_st (i := 5) (v := .int (iZ 0)) rfl C1
      have C3 := c1_st (i := 4) (v := .int (iZ (q + 1))) rfl C2
      have k3 := ih (q + 1) _ (by omega) (by omega) C3 (by rw [lk_s C2, lk_s C1, lk_s hc]; exact l0) (by rw [lk_s C2, lk_s C1, lk_s hc]; exact l1) (by rw [lk_s C2, lk_s C1, lk_s hc]; rfl) (by rw [lk_s C2, lk_s C1, lk_s hc]; exact l3) (by rw [lk_s C2]; rfl)
      refine Gx.run 80 Cs.tt (fun C _ => ?_) k3
      by_cases h1 : gZ Mi q = gZ Mi k
      · have h2 : ¬ gZ Sa (q + 1) - gZ Sa q = n := fun z => hc1 ⟨h1, z⟩
        by_cases z3 : n ≤ 0
        · simp (disch := first | (refine c1_id ?_; assumption) | (refine c1_st rfl ?_; repeat (first | assumption | refine c1_st rfl ?_)) | omega) [nx_l, nx_r, nx_n, x_st, x_push, x_bin, x_div, x_un, x_dup, x_pop, x_dup2, x_goto, x_ifeq, x_ifne, x_iflt, x_ifge, x_ifgt, x_ifle, x_iceq, x_icne, x_iclt, x_icge, x_icgt, x_icle, x_ifnull, x_ifnonnull, x_ldi, x_lda, x_sti, x_sta, x_iinc, x_gf, x_pf, x_ald, x_ast, x_aln, x_len, x_cl_, x_cv, x_cs, x_rc, x_r0, x_isT, x_oi, x_rv, x_ri, x_ra, Value.category, t104_0, t104_1, t104_2, t104_3, t104_6, t104_7, t104_8, t104_9, t104_10, t104_11, t104_14, t104_15, t104_16, t104_17, t104_18, t104_19, t104_21, t104_23, t104_24, t104_27, t104_28, t104_31, t104_32, t104_35, t104_37, t104_38, t104_39, t104_42, t104_43, t104_44, t104_47, t104_48, t104_51, t104_53, t104_54, t104_55, t104_56, t104_57, t104_60, t104_62, t104_63, t104_64, t104_65, t104_68, t104_69, t104_72, t104_73, t104_74, t104_75, t104_77, t104_79, t104_80, t104_83, t104_84, t104_87, t104_88, t104_91, t104_92, t104_95, t104_97, t104_98, t104_100, t104_101, t104_102, t104_103, t104_106, t104_107, t104_110, t104_111, t104_112, t104_114, t104_115, t104_116, t104_119, t104_120, t104_123, t104_124, t104_125, t104_128, t104_131, t104_134, t104_137, t104_138, lk_s, hp_get, hp_set, uH_at, uH_ne, uH_upd, uH_swap, iZ_add, iZ_sub, iZ_mul, iZ_neg, iZ_lt, iZ_le, iZ_eq, iZ_div, iZ_of, ix_Z, gZ_map, gZ_mapI, gZ_map', le_0, le_s, sZ_map, sZ_len, bZ_0, bZ_inj, bZ_t, bZ_f, nr_i, nr_0, nr_1, nr_b, ft_i, ft_b, ft_0, ft_1, zl_0, zl_1, mF_len, mg_0, mg_1, mg_2, mg_3, mg_4, mg_5, mg_6, mg_7, mg_8, mg_9, mg_10, mg_11, mg_12, mg_13, mg_14, mg_15, mg_16, mg_17, mg_18, mg_19, mg_20, mg_21, mg_22, mg_23, mg_24, mg_25, mg_26, mg_27, mg_28, mg_29, mg_30, mg_31, mg_32, mg_33, mg_34, mg_35, mg_36, mg_37, mg_38, ms_0, ms_1, ms_2, ms_13, ms_14, ms_15, ms_16, ms_21, ms_22, ms_23, ms_24, ms_28, ms_36, ms_37, ms_38, st_at, st_ne, st_st, st_swap, l0, l1, l2, l3, l4, hm, hA, hM, z1, h1, h2, z3, -List.filter_filter, -List.getElem?_map, -List.getD_eq_getElem?_getD]
        · simp (disch := first | (refine c1_id ?_; assumption) | (refine c1_st rfl ?_; repeat (first | assumption | refine c1_st rfl ?_)) | omega) [nx_l, nx_r, nx_n, x_st, x_push, x_bin, x_div, x_un, x_dup, x_pop, x_dup2, x_goto, x_ifeq, x_ifne, x_iflt, x_ifge, x_ifgt, x_ifle, x_iceq, x_icne, x_iclt, x_icge, x_icgt, x_icle, x_ifnull, x_ifnonnull, x_ldi, x_lda, x_sti, x_sta, x_iinc, x_gf, x_pf, x_ald, x_ast, x_aln, x_len, x_cl_, x_cv, x_cs, x_rc, x_r0, x_isT, x_oi, x_rv, x_ri, x_ra, Value.category, t104_0, t104_1, t104_2, t104_3, t104_6, t104_7, t104_8, t104_9, t104_10, t104_11, t104_14, t104_15, t104_16, t104_17, t104_18, t104_19, t104_21, t104_23, t104_24, t104_27, t104_28, t104_31, t104_32, t104_35, t104_37, t104_38, t104_39, t104_42, t104_43, t104_44, t104_47, t104_48, t104_51, t104_53, t104_54, t104_55, t104_56, t104_57, t104_60, t104_62, t104_63, t104_64, t104_65, t104_68, t104_69, t104_72, t104_73, t104_74, t104_75, t104_77, t104_79, t104_80, t104_83, t104_84, t104_87, t104_88, t104_91, t104_92, t104_95, t104_97, t104_98, t104_100, t104_101, t104_102, t104_103, t104_106, t104_107, t104_110, t104_111, t104_112, t104_114, t104_115, t104_116, t104_119, t104_120, t104_123, t104_124, t104_125, t104_128, t104_131, t104_134, t104_137, t104_138, lk_s, hp_get, hp_set, uH_at, uH_ne, uH_upd, uH_swap, iZ_add, iZ_sub, iZ_mul, iZ_neg, iZ_lt, iZ_le, iZ_eq, iZ_div, iZ_of, ix_Z, gZ_map, gZ_mapI, gZ_map', le_0, le_s, sZ_map, sZ_len, bZ_0, bZ_inj, bZ_t, bZ_f, nr_i, nr_0, nr_1, nr_b, ft_i, ft_b, ft_0, ft_1, zl_0, zl_1, mF_len, mg_0, mg_1, mg_2, mg_3, mg_4, mg_5, mg_6, mg_7, mg_8, mg_9, mg_10, mg_11, mg_12, mg_13, mg_14, mg_15, mg_16, mg_17, mg_18, mg_19, mg_20, mg_21, mg_22, mg_23, mg_24, mg_25, mg_26, mg_27, mg_28, mg_29, mg_30, mg_31, mg_32, mg_33, mg_34, mg_35, mg_36, mg_37, mg_38, ms_0, ms_1, ms_2, ms_13, ms_14, ms_15, ms_16, ms_21, ms_22, ms_23, ms_24, ms_28, ms_36, ms_37, ms_38, st_at, st_ne, st_st, st_swap, l0, l1, l2, l3, l4, hm, hA, hM, z1, h1, h2, z3, -List.filter_filter, -List.getElem?_map, -List.getD_eq_getElem?_getD]
      · by_cases z3 : n ≤ 0
        · simp (disch := first | (refine c1_id ?_; assumption) | (refine c1_st rfl ?_; repeat (first | assumption | refine c1_st rfl ?_)) | omega) [nx_l, nx_r, nx_n, x_st, x_push, x_bin, x_div, x_un, x_dup, x_pop, x_dup2, x_goto, x_ifeq, x_ifne, x_iflt, x_ifge, x_ifgt, x_ifle, x_iceq, x_icne, x_iclt, x_icge, x_icgt, x_icle, x_ifnull, x_ifnonnull, x_ldi, x_lda, x_sti, x_sta, x_iinc, x_gf, x_pf, x_ald, x_ast, x_aln, x_len, x_cl_, x_cv, x_cs, x_rc, x_r0, x_isT, x_oi, x_rv, x_ri, x_ra, Value.category, t104_0, t104_1, t104_2, t104_3, t104_6, t104_7, t104_8, t104_9, t104_10, t104_11, t104_14, t104_15, t104_16, t104_17, t104_18, t104_19, t104_21, t104_23, t104_24, t104_27, t104_28, t104_31, t104_32, t104_35, t104_37, t104_38, t104_39, t104_42, t104_43, t104_44, t104_47, t104_48, t104_51, t104_53, t104_54, t104_55, t104_56, t104_57, t104_60, t104_62, t104_63, t104_64, t104_65, t104_68, t104_69, t104_72, t104_73, t104_74, t104_75, t104_77, t104_79, t104_80, t104_83, t104_84, t104_87, t104_88, t104_91, t104_92, t104_95, t104_97, t104_98, t104_100, t104_101, t104_102, t104_103, t104_106, t104_107, t104_110, t104_111, t104_112, t104_114, t104_115, t104_116, t104_119, t104_120, t104_123, t104_124, t104_125, t104_128, t104_131, t104_134, t104_137, t104_138, lk_s, hp_get, hp_set, uH_at, uH_ne, uH_upd, uH_swap, iZ_add, iZ_sub, iZ_mul, iZ_neg, iZ_lt, iZ_le, iZ_eq, iZ_div, iZ_of, ix_Z, gZ_map, gZ_mapI, gZ_map', le_0, le_s, sZ_map, sZ_len, bZ_0, bZ_inj, bZ_t, bZ_f, nr_i, nr_0, nr_1, nr_b, ft_i, ft_b, ft_0, ft_1, zl_0, zl_1, mF_len, mg_0, mg_1, mg_2, mg_3, mg_4, mg_5, mg_6, mg_7, mg_8, mg_9, mg_10, mg_11, mg_12, mg_13, mg_14, mg_15, mg_16, mg_17, mg_18, mg_19, mg_20, mg_21, mg_22, mg_23, mg_24, mg_25, mg_26, mg_27, mg_28, mg_29, mg_30, mg_31, mg_32, mg_33, mg_34, mg_35, mg_36, mg_37, mg_38, ms_0, ms_1, ms_2, ms_13, ms_14, ms_15, ms_16, ms_21, ms_22, ms_23, ms_24, ms_28, ms_36, ms_37, ms_38, st_at, st_ne, st_st, st_swap, l0, l1, l2, l3, l4, hm, hA, hM, z1, h1, z3, -List.filter_filter, -List.getElem?_map, -List.getD_eq_getElem?_getD]
        · simp (disch := first | (refine c1_id ?_; assumption) | (refine c1_st rfl ?_; repeat (first | assumption | refine c1_st rfl ?_)) | omega) [nx_l, nx_r, nx_n, x_st, x_push, x_bin, x_div, x_un, x_dup, x_pop, x_dup2, x_goto, x_ifeq, x_ifne, x_iflt, x_ifge, x_ifgt, x_ifle, x_iceq, x_icne, x_iclt, x_icge, x_icgt, x_icle, x_ifnull, x_ifnonnull, x_ldi, x_lda, x_sti, x_sta, x_iinc, x_gf, x_pf, x_ald, x_ast, x_aln, x_len, x_cl_, x_cv, x_cs, x_rc, x_r0, x_isT, x_oi, x_rv, x_ri, x_ra, Value.category, t104_0, t104_1, t104_2, t104_3, t104_6, t104_7, t104_8, t104_9, t104_10, t104_11, t104_14, t104_15, t104_16, t104_17, t104_18, t104_19, t104_21, t104_23, t104_24, t104_27, t104_28, t104_31, t104_32, t104_35, t104_37, t104_38, t104_39, t104_42, t104_43, t104_44, t104_47, t104_48, t104_51, t104_53, t104_54, t104_55, t104_56, t104_57, t104_60, t104_62, t104_63, t104_64, t104_65, t104_68, t104_69, t104_72, t104_73, t104_74, t104_75, t104_77, t104_79, t104_80, t104_83, t104_84, t104_87, t104_88, t104_91, t104_92, t104_95, t104_97, t104_98, t104_100, t104_101, t104_102, t104_103, t104_106, t104_107, t104_110, t104_111, t104_112, t104_114, t104_115, t104_116, t104_119, t104_120, t104_123, t104_124, t104_125, t104_128, t104_131, t104_134, t104_137, t104_138, lk_s, hp_get, hp_set, uH_at, uH_ne, uH_upd, uH_swap, iZ_add, iZ_sub, iZ_mul, iZ_neg, iZ_lt, iZ_le, iZ_eq, iZ_div, iZ_of, ix_Z, gZ_map, gZ_mapI, gZ_map', le_0, le_s, sZ_map, sZ_len, bZ_0, bZ_inj, bZ_t, bZ_f, nr_i, nr_0, nr_1, nr_b, ft_i, ft_b, ft_0, ft_1, zl_0, zl_1, mF_len, mg_0, mg_1, mg_2, mg_3, mg_4, mg_5, mg_6, mg_7, mg_8, mg_9, mg_10, mg_11, mg_12, mg_13, mg_14, mg_15, mg_16, mg_17, mg_18, mg_19, mg_20, mg_21, mg_22, mg_23, mg_24, mg_25, mg_26, mg_27, mg_28, mg_29, mg_30, mg_31, mg_32, mg_33, mg_34, mg_35, mg_36, mg_37, mg_38, ms_0, ms_1, ms_2, ms_13, ms_14, ms_15, ms_16, ms_21, ms_22, ms_23, ms_24, ms_28, ms_36, ms_37, ms_38, st_at, st_ne, st_st, st_swap, l0, l1, l2, l3, l4, hm, hA, hM, z1, h1, z3, -List.filter_filter, -List.getElem?_map, -List.getD_eq_getElem?_getD]
theorem m104 (d : Nat) (hN : 53 ≤ N) (hm : w 27 = .inr (8, mF m)) (hR : w 38 = cI 0 R) (s1 : R.length = 600) (hA : w 39 = cI 0 Sa) (s2 : Sa.length = 14) (hM : w 41 = cI 1 Mi) (s3 : Mi.length = 14) (hr : ∀ i, 0 ≤ i → i < B → 0 ≤ gZ R i ∧ gZ R i < 100000) (hB : B ≤ 500) (hs : ∀ i, 0 ≤ i → i ≤ K → 0 ≤ gZ Sa i ∧ gZ Sa i ≤ B) (hmi : ∀ i, 0 ≤ i → i ≤ K → gZ Mi i = 0 ∨ gZ Mi i = 1) (k : Int) (k0 : 0 ≤ k) (k1 : k < 13) (kK : k ≤ K) (n0 : 0 ≤ gZ Sa (k + 1) - gZ Sa k) (n1 : gZ Sa (k + 1) - gZ Sa k ≤ 100) (n2 : gZ Sa (k + 1) ≤ B) :
    Xc (d + 1) 104 [.ref 30, .int (iZ k)] (hp w N) (some (.int (iZ (bZ (twF (sameL R Sa Mi k (gZ Sa (k + 1) - gZ Sa k)) k.toNat 0)))), hp w N) := by
  refine Xc.of rfl (by simp [lg_sl, Value.category]) ?_ (x_le.rf)
  have hc : c1 (lv_args 0 [.ref 30, .int (iZ k)]) := by simp [c1, lv_args, Value.category]
  have l0 : x_lk (lv_args 0 [.ref 30, .int (iZ k)]) 0 = some (.ref 30) := rfl
  have l1 : x_lk (lv_args 0 [.ref 30, .int (iZ k)]) 1 = some (.int (iZ k)) := rfl
  generalize lv_args 0 [.ref 30, .int (iZ k)] = lv at hc l0 l1
  have C1 := c1_st (i := 2) (v := .int (iZ 0)) rfl hc
  have C2 := c1_st (i := 3) (v := .int (iZ (gZ Sa (k + 1) - gZ Sa k))) rfl C1
  have C3 := c1_st (i := 4) (v := .int (iZ 0)) rfl C2
  have k3 := l104_21 d hN hm hR s1 hA s2 hM s3 hr hB hs hmi k (gZ Sa (k + 1) - gZ Sa k) k0 k1 kK n0 n1 (by omega) k.toNat 0 _ (by omega) (by omega) C3 (by rw [lk_s C2, lk_s C1, lk_s hc]; exact l0) (by rw [lk_s C2, lk_s C1, lk_s hc]; exact l1) (by rw [lk_s C2, lk_s C1, lk_s hc]; rfl) (by rw [lk_s C2, lk_s C1]; rfl) (by rw [lk_s C2]; rfl)
  refine Gx.run 60 Cs.tt (fun C _ => ?_) k3
  simp (disch := first | (refine c1_id ?_; assumption) | (refine c1_st rfl ?_; repeat (first | assumption | refine c1_st rfl ?_)) | omega) [nx_l, nx_r, nx_n, x_st, x_push, x_bin, x_div, x_un, x_dup, x_pop, x_dup2, x_goto, x_ifeq, x_ifne, x_iflt, x_ifge, x_ifgt, x_ifle, x_iceq, x_icne, x_iclt, x_icge, x_icgt, x_icle, x_ifnull, x_ifnonnull, x_ldi, x_lda, x_sti, x_sta, x_iinc, x_gf, x_pf, x_ald, x_ast, x_aln, x_len, x_cl_, x_cv, x_cs, x_rc, x_r0, x_isT, x_oi, x_rv, x_ri, x_ra, Value.category, t104_0, t104_1, t104_2, t104_3, t104_6, t104_7, t104_8, t104_9, t104_10, t104_11, t104_14, t104_15, t104_16, t104_17, t104_18, t104_19, t104_21, t104_23, t104_24, t104_27, t104_28, t104_31, t104_32, t104_35, t104_37, t104_38, t104_39, t104_42, t104_43, t104_44, t104_47, t104_48, t104_51, t104_53, t104_54, t104_55, t104_56, t104_57, t104_60, t104_62, t104_63, t104_64, t104_65, t104_68, t104_69, t104_72, t104_73, t104_74, t104_75, t104_77, t104_79, t104_80, t104_83, t104_84, t104_87, t104_88, t104_91, t104_92, t104_95, t104_97, t104_98, t104_100, t104_101, t104_102, t104_103, t104_106, t104_107, t104_110, t104_111, t104_112, t104_114, t104_115, t104_116, t104_119, t104_120, t104_123, t104_124, t104_125, t104_128, t104_131, t104_134, t104_137, t104_138, lk_s, hp_get, hp_set, uH_at, uH_ne, uH_upd, uH_swap, iZ_add, iZ_sub, iZ_mul, iZ_neg, iZ_lt, iZ_le, iZ_eq, iZ_div, iZ_of, ix_Z, gZ_map, gZ_mapI, gZ_map', le_0, le_s, sZ_map, sZ_len, bZ_0, bZ_inj, bZ_t, bZ_f, nr_i, nr_0, nr_1, nr_b, ft_i, ft_b, ft_0, ft_1, zl_0, zl_1, mF_len, mg_0, mg_1, mg_2, mg_3, mg_4, mg_5, mg_6, mg_7, mg_8, mg_9, mg_10, mg_11, mg_12, mg_13, mg_14, mg_15, mg_16, mg_17, mg_18, mg_19, mg_20, mg_21, mg_22, mg_23, mg_24, mg_25, mg_26, mg_27, mg_28, mg_29, mg_30, mg_31, mg_32, mg_33, mg_34, mg_35, mg_36, mg_37, mg_38, ms_0, ms_1, ms_2, ms_13, ms_14, ms_15, ms_16, ms_21, ms_22, ms_23, ms_24, ms_28, ms_36, ms_37, ms_38, st_at, st_ne, st_st, st_swap, l0, l1, hm, hA, -List.filter_filter, -List.getElem?_map, -List.getD_eq_getElem?_getD]
theorem m99 (d : Nat) (hN : 53 ≤ N) (hm : w 27 = .inr (8, mF m)) (hU : w 36 = cI 0 Us) (s1 : Us.length = 26) (c h : Int) (c0 : 0 ≤ c) (c9 : c < 26) (h0 : 0 ≤ h) (h1 : h < 100) (hu : 0 ≤ gZ Us c ∧ gZ Us c < 100) (b : Bool) (h6 : m 6 = bZ b) :
    Xc (d + 1) 99 [.ref 30, .int (iZ c), .int (iZ h)] (hp w N) (none, hp (uH (uH w 27 (.inr (8, mF (st_ m 6 (bZ (b || (decide (gZ Us c ≠ 0) && decide (gZ Us c ≠ h)))))))) 36 (cI 0 (sZ Us c h))) N) := by
  refine Xc.of rfl (by simp [lg_sl, Value.category]) ?_ (hp_le (Nat.le_refl _) (fun j _ => by (simp only [uH]; repeat' split) <;> simp_all [x_c1, sZ_len, cpl_len, mF_len]))
  have hc : c1 (lv_args 0 [.ref 30, .int (iZ c), .int (iZ h)]) := by simp [c1, lv_args, Value.category]
  have l0 : x_lk (lv_args 0 [.ref 30, .int (iZ c), .int (iZ h)]) 0 = some (.ref 30) := rfl
  have l1 : x_lk (lv_args 0 [.ref 30, .int (iZ c), .int (iZ h)]) 1 = some (.int (iZ c)) := rfl
  have l2 : x_lk (lv_args 0 [.ref 30, .int (iZ c), .int (iZ h)]) 2 = some (.int (iZ h)) := rfl
  generalize lv_args 0 [.ref 30, .int (iZ c), .int (iZ h)] = lv at hc l0 l1 l2
  refine Gx.fin 60 Cs.tt (fun C _ => ?_)
  cases b with
  | true => simp (disch := first | (refine c1_id ?_; assumption) | (refine c1_st rfl ?_; repeat (first | assumption | refine c1_st rfl ?_)) | omega) [nx_l, nx_r, nx_n, x_st, x_push, x_bin, x_div, x_un, x_dup, x_pop, x_dup2, x_goto, x_ifeq, x_ifne, x_iflt, x_ifge, x_ifgt, x_ifle, x_iceq, x_icne, x_iclt, x_icge, x_icgt, x_icle, x_ifnull, x_ifnonnull, x_ldi, x_lda, x_sti, x_sta, x_iinc, x_gf, x_pf, x_ald, x_ast, x_aln, x_len, x_cl_, x_cv, x_cs, x_rc, x_r0, x_isT, x_oi, x_rv, x_ri, x_ra, Value.category, t99_0, t99_1, t99_2, t99_5, t99_8, t99_9, t99_12, t99_13, t99_14, t99_17, t99_18, t99_21, t99_22, t99_23, t99_24, t99_27, t99_28, t99_31, t99_32, t99_35, t99_36, t99_39, t99_40, t99_41, t99_42, lk_s, hp_get, hp_set, uH_at, uH_ne, uH_upd, uH_swap, iZ_add, iZ_sub, iZ_mul, iZ_neg, iZ_lt, iZ_le, iZ_eq, iZ_div, iZ_of, ix_Z, gZ_map, gZ_mapI, gZ_map', le_0, le_s, sZ_map, sZ_len, bZ_0, bZ_inj, bZ_t, bZ_f, nr_i, nr_0, nr_1, nr_b, ft_i, ft_b, ft_0, ft_1, zl_0, zl_1, mF_len, mg_0, mg_1, mg_2, mg_3, mg_4, mg_5, mg_6, mg_7, mg_8, mg_9, mg_10, mg_11, mg_12, mg_13, mg_14, mg_15, mg_16, mg_17, mg_18, mg_19, mg_20, mg_21, mg_22, mg_23, mg_24, mg_25, mg_26, mg_27, mg_28, mg_29, mg_30, mg_31, mg_32, mg_33, mg_34, mg_35, mg_36, mg_37, mg_38, ms_0, ms_1, ms_2, ms_13, ms_14, ms_15, ms_16, ms_21, ms_22, ms_23, ms_24, ms_28, ms_36, ms_37, ms_38, st_at, st_ne, st_st, st_swap, l0, l1, l2, hm, hU, h6, -List.filter_filter, -List.getElem?_map, -List.getD_eq_getElem?_getD]
  | false =>
    by_cases z1 : gZ Us c = 0
    · simp (disch := first | (refine c1_id ?_; assumption) | (refine c1_st rfl ?_; repeat (first | assumption | refine c1_st rfl ?_)) | omega) [nx_l, nx_r, nx_n, x_st, x_push, x_bin, x_div, x_un, x_dup, x_pop, x_dup2, x_goto, x_ifeq, x_ifne, x_iflt, x_ifge, x_ifgt, x_ifle, x_iceq, x_icne, x_iclt, x_icge, x_icgt, x_icle, x_ifnull, x_ifnonnull, x_ldi, x_lda, x_sti, x_sta, x_iinc, x_gf, x_pf, x_ald, x_ast, x_aln, x_len, x_cl_, x_cv, x_cs, x_rc, x_r0, x_isT, x_oi, x_rv, x_ri, x_ra, Value.category, t99_0, t99_1, t99_2, t99_5, t99_8, t99_9, t99_12, t99_13, t99_14, t99_17, t99_18, t99_21, t99_22, t99_23, t99_24, t99_27, t99_28, t99_31, t99_32, t99_35, t99_36, t99_39, t99_40, t99_41, t99_42, lk_s, hp_get, hp_set, uH_at, uH_ne, uH_upd, uH_swap, iZ_add, iZ_sub, iZ_mul, iZ_neg, iZ_lt, iZ_le, iZ_eq, iZ_div, iZ_of, ix_Z, gZ_map, gZ_mapI, gZ_map', le_0, le_s, sZ_map, sZ_len, bZ_0, bZ_inj, bZ_t, bZ_f, nr_i, nr_0, nr_1, nr_b, ft_i, ft_b, ft_0, ft_1, zl_0, zl_1, mF_len, mg_0, mg_1, mg_2, mg_3, mg_4, mg_5, mg_6, mg_7, mg_8, mg_9, mg_10, mg_11, mg_12, mg_13, mg_14, mg_15, mg_16, mg_17, mg_18, mg_19, mg_20, mg_21, mg_22, mg_23, mg_24, mg_25, mg_26, mg_27, mg_28, mg_29, mg_30, mg_31, mg_32, mg_33, mg_34, mg_35, mg_36, mg_37, mg_38, ms_0, ms_1, ms_2, ms_13, ms_14, ms_15, ms_16, ms_21, ms_22, ms_23, ms_24, ms_28, ms_36, ms_37, ms_38, st_at, st_ne, st_st, st_swap, l0, l1, l2, hm, hU, h6, z1, -List.filter_filter, -List.getElem?_map, -List.getD_eq_getElem?_getD]
    · by_cases z2 : gZ Us c = h
      · subst z2
        simp (disch := first | (refine c1_id ?_; assumption) | (refine c1_st rfl ?_; repeat (first | assumption | refine c1_st rfl ?_)) | omega) [nx_l, nx_r, nx_n, x_st, x_push, x_bin, x_div, x_un, x_dup, x_pop, x_dup2, x_goto, x_ifeq, x_ifne, x_iflt, x_ifge, x_ifgt, x_ifle, x_iceq, x_icne, x_iclt, x_icge, x_icgt, x_icle, x_ifnull, x_ifnonnull, x_ldi, x_lda, x_sti, x_sta, x_iinc, x_gf, x_pf, x_ald, x_ast, x_aln, x_len, x_cl_, x_cv, x_cs, x_rc, x_r0, x_isT, x_oi, x_rv, x_ri, x_ra, Value.category, t99_0, t99_1, t99_2, t99_5, t99_8, t99_9, t99_12, t99_13, t99_14, t99_17, t99_18, t99_21, t99_22, t99_23, t99_24, t99_27, t99_28, t99_31, t99_32, t99_35, t99_36, t99_39, t99_40, t99_41, t99_42, lk_s, hp_get, hp_set, uH_at, uH_ne, uH_upd, uH_swap, iZ_add, iZ_sub, iZ_mul, iZ_neg, iZ_lt, iZ_le, iZ_eq, iZ_div, iZ_of, ix_Z, gZ_map, gZ_mapI, gZ_map', le_0, le_s, sZ_map, sZ_len, bZ_0, bZ_inj, bZ_t, bZ_f, nr_i, nr_0, nr_1, nr_b, ft_i, ft_b, ft_0, ft_1, zl_0, zl_1, mF_len, mg_0, mg_1, mg_2, mg_3, mg_4, mg_5, mg_6, mg_7, mg_8, mg_9, mg_10, mg_11, mg_12, mg_13, mg_14, mg_15, mg_16, mg_17, mg_18, mg_19, mg_20, mg_21, mg_22, mg_23, mg_24, mg_25, mg_26, mg_27, mg_28, mg_29, mg_30, mg_31, mg_32, mg_33, mg_34, mg_35, mg_36, mg_37, mg_38, ms_0, ms_1, ms_2, ms_13, ms_14, ms_15, ms_16, ms_21, ms_22, ms_23, ms_24, ms_28, ms_36, ms_37, ms_38, st_at, st_ne, st_st, st_swap, l0, l1, l2, hm, hU, h6, z1, -List.filter_filter, -List.getElem?_map, -List.getD_eq_getElem?_getD]
      · simp (disch := first | (refine c1_id ?_; assumption) | (refine c1_st rfl ?_; repeat (first | assumption | refine c1_st rfl ?_)) | omega) [nx_l, nx_r, nx_n, x_st, x_push, x_bin, x_div, x_un, x_dup, x_pop, x_dup2, x_goto, x_ifeq, x_ifne, x_iflt, x_ifge, x_ifgt, x_ifle, x_iceq, x_icne, x_iclt, x_icge, x_icgt, x_icle, x_ifnull, x_ifnonnull, x_ldi, x_lda, x_sti, x_sta, x_iinc, x_gf, x_pf, x_ald, x_ast, x_aln, x_len, x_cl_, x_cv, x_cs, x_rc, x_r0, x_isT, x_oi, x_rv, x_ri, x_ra, Value.category, t99_0, t99_1, t99_2, t99_5, t99_8, t99_9, t99_12, t99_13, t99_14, t99_17, t99_18, t99_21, t99_22, t99_23, t99_24, t99_27, t99_28, t99_31, t99_32, t99_35, t99_36, t99_39, t99_40, t99_41, t99_42, lk_s, hp_get, hp_set, uH_at, uH_ne, uH_upd, uH_swap, iZ_add, iZ_sub, iZ_mul, iZ_neg, iZ_lt, iZ_le, iZ_eq, iZ_div, iZ_of, ix_Z, gZ_map, gZ_mapI, gZ_map', le_0, le_s, sZ_map, sZ_len, bZ_0, bZ_inj, bZ_t, bZ_f, nr_i, nr_0, nr_1, nr_b, ft_i, ft_b, ft_0, ft_1, zl_0, zl_1, mF_len, mg_0, mg_1, mg_2, mg_3, mg_4, mg_5, mg_6, mg_7, mg_8, mg_9, mg_10, mg_11, mg_12, mg_13, mg_14, mg_15, mg_16, mg_17, mg_18, mg_19, mg_20, mg_21, mg_22, mg_23, mg_24, mg_25, mg_26, mg_27, mg_28, mg_29, mg_30, mg_31, mg_32, mg_33, mg_34, mg_35, mg_36, mg_37, mg_38, ms_0, ms_1, ms_2, ms_13, ms_14, ms_15, ms_16, ms_21, ms_22, ms_23, ms_24, ms_28, ms_36, ms_37, ms_38, st_at, st_ne, st_st, st_swap, l0, l1, l2, hm, hU, h6, z1, z2, -List.filter_filter, -List.getElem?_map, -List.getD_eq_getElem?_getD]
end TW
