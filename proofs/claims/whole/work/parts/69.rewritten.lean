/-! the reference: a clause with one term rewritten; all variables called anew -/
theorem f127_0 : x_fetch q_k127 0 = x_st (x_push 1 (.int (0))) := rfl
theorem t127_0 (C : xF) (s n : Nat) (z : xS) : x_to q_k127 C s (n + 1) 0 z = x_nx q_k127 C s n ((x_st (x_push 1 (.int (0)))) C z) := x_to_at f127_0 C s n z
theorem f127_1 : x_fetch q_k127 1 = x_sti 3 5 := rfl
theorem t127_1 (C : xF) (s n : Nat) (z : xS) : x_to q_k127 C s (n + 1) 1 z = x_nx q_k127 C s n ((x_sti 3 5) C z) := x_to_at f127_1 C s n z
theorem f127_3 : x_fetch q_k127 3 = x_ldi 5 5 := rfl
theorem t127_3 (C : xF) (s n : Nat) (z : xS) : x_to q_k127 C s (n + 1) 3 z = x_nx q_k127 C s n ((x_ldi 5 5) C z) := x_to_at f127_3 C s n z
theorem f127_5 : x_fetch q_k127 5 = x_lda 6 0 := rfl
theorem t127_5 (C : xF) (s n : Nat) (z : xS) : x_to q_k127 C s (n + 1) 5 z = x_nx q_k127 C s n ((x_lda 6 0) C z) := x_to_at f127_5 C s n z
theorem f127_6 : x_fetch q_k127 6 = x_gf 9 8 5 := rfl
theorem t127_6 (C : xF) (s n : Nat) (z : xS) : x_to q_k127 C s (n + 1) 6 z = x_nx q_k127 C s n ((x_gf 9 8 5) C z) := x_to_at f127_6 C s n z
theorem f127_9 : x_fetch q_k127 9 = x_ldi 10 1 := rfl
theorem t127_9 (C : xF) (s n : Nat) (z : xS) : x_to q_k127 C s (n + 1) 9 z = x_nx q_k127 C s n ((x_ldi 10 1) C z) := x_to_at f127_9 C s n z
theorem f127_10 : x_fetch q_k127 10 = x_ald 11 0 := rfl
theorem t127_10 (C : xF) (s n : Nat) (z : xS) : x_to q_k127 C s (n + 1) 10 z = x_nx q_k127 C s n ((x_ald 11 0) C z) := x_to_at f127_10 C s n z
theorem f127_11 : x_fetch q_k127 11 = x_st (x_icge 136 14) := rfl
theorem t127_11 (C : xF) (s n : Nat) (z : xS) : x_to q_k127 C s (n + 1) 11 z = x_nx q_k127 C s n ((x_st (x_icge 136 14)) C z) := x_to_at f127_11 C s n z
theorem f127_14 : x_fetch q_k127 14 = x_lda 15 0 := rfl
theorem t127_14 (C : xF) (s n : Nat) (z : xS) : x_to q_k127 C s (n + 1) 14 z = x_nx q_k127 C s n ((x_lda 15 0) C z) := x_to_at f127_14 C s n z
theorem f127_15 : x_fetch q_k127 15 = x_gf 18 8 24 := rfl
theorem t127_15 (C : xF) (s n : Nat) (z : xS) : x_to q_k127 C s (n + 1) 15 z = x_nx q_k127 C s n ((x_gf 18 8 24) C z) := x_to_at f127_15 C s n z
theorem f127_18 : x_fetch q_k127 18 = x_st (x_ifne 136 21) := rfl
theorem t127_18 (C : xF) (s n : Nat) (z : xS) : x_to q_k127 C s (n + 1) 18 z = x_nx q_k127 C s n ((x_st (x_ifne 136 21)) C z) := x_to_at f127_18 C s n z
theorem f127_21 : x_fetch q_k127 21 = x_st (x_push 23 (.int (44))) := rfl
theorem t127_21 (C : xF) (s n : Nat) (z : xS) : x_to q_k127 C s (n + 1) 21 z = x_nx q_k127 C s n ((x_st (x_push 23 (.int (44)))) C z) := x_to_at f127_21 C s n z
theorem f127_23 : x_fetch q_k127 23 = x_lda 24 0 := rfl
theorem t127_23 (C : xF) (s n : Nat) (z : xS) : x_to q_k127 C s (n + 1) 23 z = x_nx q_k127 C s n ((x_lda 24 0) C z) := x_to_at f127_23 C s n z
theorem f127_24 : x_fetch q_k127 24 = x_gf 27 8 4 := rfl
theorem t127_24 (C : xF) (s n : Nat) (z : xS) : x_to q_k127 C s (n + 1) 24 z = x_nx q_k127 C s n ((x_gf 27 8 4) C z) := x_to_at f127_24 C s n z
theorem f127_27 : x_fetch q_k127 27 = x_st (x_push 29 (.int (7))) := rfl
theorem t127_27 (C : xF) (s n : Nat) (z : xS) : x_to q_k127 C s (n + 1) 27 z = x_nx q_k127 C s n ((x_st (x_push 29 (.int (7)))) C z) := x_to_at f127_27 C s n z
theorem f127_29 : x_fetch q_k127 29 = x_ldi 30 1 := rfl
theorem t127_29 (C : xF) (s n : Nat) (z : xS) : x_to q_k127 C s (n + 1) 29 z = x_nx q_k127 C s n ((x_ldi 30 1) C z) := x_to_at f127_29 C s n z
theorem f127_30 : x_fetch q_k127 30 = x_st (x_bin 31 (fun a b => a * b)) := rfl
theorem t127_30 (C : xF) (s n : Nat) (z : xS) : x_to q_k127 C s (n + 1) 30 z = x_nx q_k127 C s n ((x_st (x_bin 31 (fun a b => a * b))) C z) := x_to_at f127_30 C s n z
theorem f127_31 : x_fetch q_k127 31 = x_ldi 33 5 := rfl
theorem t127_31 (C : xF) (s n : Nat) (z : xS) : x_to q_k127 C s (n + 1) 31 z = x_nx q_k127 C s n ((x_ldi 33 5) C z) := x_to_at f127_31 C s n z
theorem f127_33 : x_fetch q_k127 33 = x_st (x_bin 34 (fun a b => a + b)) := rfl
theorem t127_33 (C : xF) (s n : Nat) (z : xS) : x_to q_k127 C s (n + 1) 33 z = x_nx q_k127 C s n ((x_st (x_bin 34 (fun a b => a + b))) C z) := x_to_at f127_33 C s n z
theorem f127_34 : x_fetch q_k127 34 = x_ald 35 0 := rfl
theorem t127_34 (C : xF) (s n : Nat) (z : xS) : x_to q_k127 C s (n + 1) 34 z = x_nx q_k127 C s n ((x_ald 35 0) C z) := x_to_at f127_34 C s n z
theorem f127_35 : x_fetch q_k127 35 = x_st (x_bin 36 (fun a b => a + b)) := rfl
theorem t127_35 (C : xF) (s n : Nat) (z : xS) : x_to q_k127 C s (n + 1) 35 z = x_nx q_k127 C s n ((x_st (x_bin 36 (fun a b => a + b))) C z) := x_to_at f127_35 C s n z
theorem f127_36 : x_fetch q_k127 36 = x_sti 38 6 := rfl
theorem t127_36 (C : xF) (s n : Nat) (z : xS) : x_to q_k127 C s (n + 1) 36 z = x_nx q_k127 C s n ((x_sti 38 6) C z) := x_to_at f127_36 C s n z
theorem f127_38 : x_fetch q_k127 38 = x_st (x_push 40 (.int (44))) := rfl
theorem t127_38 (C : xF) (s n : Nat) (z : xS) : x_to q_k127 C s (n + 1) 38 z = x_nx q_k127 C s n ((x_st (x_push 40 (.int (44)))) C z) := x_to_at f127_38 C s n z
theorem f127_40 : x_fetch q_k127 40 = x_lda 41 0 := rfl
theorem t127_40 (C : xF) (s n : Nat) (z : xS) : x_to q_k127 C s (n + 1) 40 z = x_nx q_k127 C s n ((x_lda 41 0) C z) := x_to_at f127_40 C s n z
theorem f127_41 : x_fetch q_k127 41 = x_gf 44 8 4 := rfl
theorem t127_41 (C : xF) (s n : Nat) (z : xS) : x_to q_k127 C s (n + 1) 41 z = x_nx q_k127 C s n ((x_gf 44 8 4) C z) := x_to_at f127_41 C s n z
theorem f127_44 : x_fetch q_k127 44 = x_st (x_push 46 (.int (7))) := rfl
theorem t127_44 (C : xF) (s n : Nat) (z : xS) : x_to q_k127 C s (n + 1) 44 z = x_nx q_k127 C s n ((x_st (x_push 46 (.int (7)))) C z) := x_to_at f127_44 C s n z
theorem f127_46 : x_fetch q_k127 46 = x_ldi 47 1 := rfl
theorem t127_46 (C : xF) (s n : Nat) (z : xS) : x_to q_k127 C s (n + 1) 46 z = x_nx q_k127 C s n ((x_ldi 47 1) C z) := x_to_at f127_46 C s n z
theorem f127_47 : x_fetch q_k127 47 = x_st (x_bin 48 (fun a b => a * b)) := rfl
theorem t127_47 (C : xF) (s n : Nat) (z : xS) : x_to q_k127 C s (n + 1) 47 z = x_nx q_k127 C s n ((x_st (x_bin 48 (fun a b => a * b))) C z) := x_to_at f127_47 C s n z
theorem f127_48 : x_fetch q_k127 48 = x_ldi 50 5 := rfl
theorem t127_48 (C : xF) (s n : Nat) (z : xS) : x_to q_k127 C s (n + 1) 48 z = x_nx q_k127 C s n ((x_ldi 50 5) C z) := x_to_at f127_48 C s n z
theorem f127_50 : x_fetch q_k127 50 = x_st (x_bin 51 (fun a b => a + b)) := rfl
theorem t127_50 (C : xF) (s n : Nat) (z : xS) : x_to q_k127 C s (n + 1) 50 z = x_nx q_k127 C s n ((x_st (x_bin 51 (fun a b => a + b))) C z) := x_to_at f127_50 C s n z
theorem f127_51 : x_fetch q_k127 51 = x_st (x_push 52 (.int (1))) := rfl
theorem t127_51 (C : xF) (s n : Nat) (z : xS) : x_to q_k127 C s (n + 1) 51 z = x_nx q_k127 C s n ((x_st (x_push 52 (.int (1)))) C z) := x_to_at f127_51 C s n z
theorem f127_52 : x_fetch q_k127 52 = x_st (x_bin 53 (fun a b => a + b)) := rfl
theorem t127_52 (C : xF) (s n : Nat) (z : xS) : x_to q_k127 C s (n + 1) 52 z = x_nx q_k127 C s n ((x_st (x_bin 53 (fun a b => a + b))) C z) := x_to_at f127_52 C s n z
theorem f127_53 : x_fetch q_k127 53 = x_ald 54 0 := rfl
theorem t127_53 (C : xF) (s n : Nat) (z : xS) : x_to q_k127 C s (n + 1) 53 z = x_nx q_k127 C s n ((x_ald 54 0) C z) := x_to_at f127_53 C s n z
theorem f127_54 : x_fetch q_k127 54 = x_st (x_bin 55 (fun a b => a + b)) := rfl
theorem t127_54 (C : xF) (s n : Nat) (z : xS) : x_to q_k127 C s (n + 1) 54 z = x_nx q_k127 C s n ((x_st (x_bin 55 (fun a b => a + b))) C z) := x_to_at f127_54 C s n z
theorem f127_55 : x_fetch q_k127 55 = x_sti 57 7 := rfl
theorem t127_55 (C : xF) (s n : Nat) (z : xS) : x_to q_k127 C s (n + 1) 55 z = x_nx q_k127 C s n ((x_sti 57 7) C z) := x_to_at f127_55 C s n z
theorem f127_57 : x_fetch q_k127 57 = x_lda 58 0 := rfl
theorem t127_57 (C : xF) (s n : Nat) (z : xS) : x_to q_k127 C s (n + 1) 57 z = x_nx q_k127 C s n ((x_lda 58 0) C z) := x_to_at f127_57 C s n z
theorem f127_58 : x_fetch q_k127 58 = x_lda 59 0 := rfl
theorem t127_58 (C : xF) (s n : Nat) (z : xS) : x_to q_k127 C s (n + 1) 58 z = x_nx q_k127 C s n ((x_lda 59 0) C z) := x_to_at f127_58 C s n z
theorem f127_59 : x_fetch q_k127 59 = x_gf 62 8 8 := rfl
theorem t127_59 (C : xF) (s n : Nat) (z : xS) : x_to q_k127 C s (n + 1) 59 z = x_nx q_k127 C s n ((x_gf 62 8 8) C z) := x_to_at f127_59 C s n z
theorem f127_62 : x_fetch q_k127 62 = x_st (x_push 64 (.int (7))) := rfl
theorem t127_62 (C : xF) (s n : Nat) (z : xS) : x_to q_k127 C s (n + 1) 62 z = x_nx q_k127 C s n ((x_st (x_push 64 (.int (7)))) C z) := x_to_at f127_62 C s n z
theorem f127_64 : x_fetch q_k127 64 = x_ldi 65 1 := rfl
theorem t127_64 (C : xF) (s n : Nat) (z : xS) : x_to q_k127 C s (n + 1) 64 z = x_nx q_k127 C s n ((x_ldi 65 1) C z) := x_to_at f127_64 C s n z
theorem f127_65 : x_fetch q_k127 65 = x_st (x_bin 66 (fun a b => a * b)) := rfl
theorem t127_65 (C : xF) (s n : Nat) (z : xS) : x_to q_k127 C s (n + 1) 65 z = x_nx q_k127 C s n ((x_st (x_bin 66 (fun a b => a * b))) C z) := x_to_at f127_65 C s n z
theorem f127_66 : x_fetch q_k127 66 = x_ldi 68 5 := rfl
theorem t127_66 (C : xF) (s n : Nat) (z : xS) : x_to q_k127 C s (n + 1) 66 z = x_nx q_k127 C s n ((x_ldi 68 5) C z) := x_to_at f127_66 C s n z
theorem f127_68 : x_fetch q_k127 68 = x_st (x_bin 69 (fun a b => a + b)) := rfl
theorem t127_68 (C : xF) (s n : Nat) (z : xS) : x_to q_k127 C s (n + 1) 68 z = x_nx q_k127 C s n ((x_st (x_bin 69 (fun a b => a + b))) C z) := x_to_at f127_68 C s n z
theorem f127_69 : x_fetch q_k127 69 = x_ald 70 1 := rfl
theorem t127_69 (C : xF) (s n : Nat) (z : xS) : x_to q_k127 C s (n + 1) 69 z = x_nx q_k127 C s n ((x_ald 70 1) C z) := x_to_at f127_69 C s n z
theorem f127_70 : x_fetch q_k127 70 = x_cv 73 115 2 8 := rfl
theorem t127_70 (C : xF) (s n : Nat) (z : xS) : x_to q_k127 C s (n + 1) 70 z = x_nx q_k127 C s n ((x_cv 73 115 2 8) C z) := x_to_at f127_70 C s n z
theorem f127_73 : x_fetch q_k127 73 = x_lda 74 0 := rfl
theorem t127_73 (C : xF) (s n : Nat) (z : xS) : x_to q_k127 C s (n + 1) 73 z = x_nx q_k127 C s n ((x_lda 74 0) C z) := x_to_at f127_73 C s n z
theorem f127_74 : x_fetch q_k127 74 = x_ldi 76 6 := rfl
theorem t127_74 (C : xF) (s n : Nat) (z : xS) : x_to q_k127 C s (n + 1) 74 z = x_nx q_k127 C s n ((x_ldi 76 6) C z) := x_to_at f127_74 C s n z
theorem f127_76 : x_fetch q_k127 76 = x_ldi 78 5 := rfl
theorem t127_76 (C : xF) (s n : Nat) (z : xS) : x_to q_k127 C s (n + 1) 76 z = x_nx q_k127 C s n ((x_ldi 78 5) C z) := x_to_at f127_76 C s n z
theorem f127_78 : x_fetch q_k127 78 = x_ldi 79 2 := rfl
theorem t127_78 (C : xF) (s n : Nat) (z : xS) : x_to q_k127 C s (n + 1) 78 z = x_nx q_k127 C s n ((x_ldi 79 2) C z) := x_to_at f127_78 C s n z
theorem f127_79 : x_fetch q_k127 79 = x_st (x_icne 86 82) := rfl
theorem t127_79 (C : xF) (s n : Nat) (z : xS) : x_to q_k127 C s (n + 1) 79 z = x_nx q_k127 C s n ((x_st (x_icne 86 82)) C z) := x_to_at f127_79 C s n z
theorem f127_82 : x_fetch q_k127 82 = x_ldi 83 3 := rfl
theorem t127_82 (C : xF) (s n : Nat) (z : xS) : x_to q_k127 C s (n + 1) 82 z = x_nx q_k127 C s n ((x_ldi 83 3) C z) := x_to_at f127_82 C s n z
theorem f127_83 : x_fetch q_k127 83 = x_st (x_goto 88) := rfl
theorem t127_83 (C : xF) (s n : Nat) (z : xS) : x_to q_k127 C s (n + 1) 83 z = x_nx q_k127 C s n ((x_st (x_goto 88)) C z) := x_to_at f127_83 C s n z
theorem f127_86 : x_fetch q_k127 86 = x_ldi 88 7 := rfl
theorem t127_86 (C : xF) (s n : Nat) (z : xS) : x_to q_k127 C s (n + 1) 86 z = x_nx q_k127 C s n ((x_ldi 88 7) C z) := x_to_at f127_86 C s n z
theorem f127_88 : x_fetch q_k127 88 = x_cv 91 114 3 8 := rfl
theorem t127_88 (C : xF) (s n : Nat) (z : xS) : x_to q_k127 C s (n + 1) 88 z = x_nx q_k127 C s n ((x_cv 91 114 3 8) C z) := x_to_at f127_88 C s n z
theorem f127_91 : x_fetch q_k127 91 = x_ldi 93 5 := rfl
theorem t127_91 (C : xF) (s n : Nat) (z : xS) : x_to q_k127 C s (n + 1) 91 z = x_nx q_k127 C s n ((x_ldi 93 5) C z) := x_to_at f127_91 C s n z
theorem f127_93 : x_fetch q_k127 93 = x_ldi 94 2 := rfl
theorem t127_93 (C : xF) (s n : Nat) (z : xS) : x_to q_k127 C s (n + 1) 93 z = x_nx q_k127 C s n ((x_ldi 94 2) C z) := x_to_at f127_93 C s n z
theorem f127_94 : x_fetch q_k127 94 = x_st (x_icne 109 97) := rfl
theorem t127_94 (C : xF) (s n : Nat) (z : xS) : x_to q_k127 C s (n + 1) 94 z = x_nx q_k127 C s n ((x_st (x_icne 109 97)) C z) := x_to_at f127_94 C s n z
theorem f127_97 : x_fetch q_k127 97 = x_lda 98 0 := rfl
theorem t127_97 (C : xF) (s n : Nat) (z : xS) : x_to q_k127 C s (n + 1) 97 z = x_nx q_k127 C s n ((x_lda 98 0) C z) := x_to_at f127_97 C s n z
theorem f127_98 : x_fetch q_k127 98 = x_ldi 100 4 := rfl
theorem t127_98 (C : xF) (s n : Nat) (z : xS) : x_to q_k127 C s (n + 1) 98 z = x_nx q_k127 C s n ((x_ldi 100 4) C z) := x_to_at f127_98 C s n z
theorem f127_100 : x_fetch q_k127 100 = x_lda 101 0 := rfl
theorem t127_100 (C : xF) (s n : Nat) (z : xS) : x_to q_k127 C s (n + 1) 100 z = x_nx q_k127 C s n ((x_lda 101 0) C z) := x_to_at f127_100 C s n z
theorem f127_101 : x_fetch q_k127 101 = x_ldi 103 4 := rfl
theorem t127_101 (C : xF) (s n : Nat) (z : xS) : x_to q_k127 C s (n + 1) 101 z = x_nx q_k127 C s n ((x_ldi 103 4) C z) := x_to_at f127_101 C s n z
theorem f127_103 : x_fetch q_k127 103 = x_cv 106 109 2 8 := rfl
theorem t127_103 (C : xF) (s n : Nat) (z : xS) : x_to q_k127 C s (n + 1) 103 z = x_nx q_k127 C s n ((x_cv 106 109 2 8) C z) := x_to_at f127_103 C s n z
theorem f127_106 : x_fetch q_k127 106 = x_cv 109 114 3 8 := rfl
theorem t127_106 (C : xF) (s n : Nat) (z : xS) : x_to q_k127 C s (n + 1) 106 z = x_nx q_k127 C s n ((x_cv 109 114 3 8) C z) := x_to_at f127_106 C s n z
theorem f127_109 : x_fetch q_k127 109 = x_ldi 111 5 := rfl
theorem t127_109 (C : xF) (s n : Nat) (z : xS) : x_to q_k127 C s (n + 1) 109 z = x_nx q_k127 C s n ((x_ldi 111 5) C z) := x_to_at f127_109 C s n z
theorem f127_111 : x_fetch q_k127 111 = x_ldi 112 2 := rfl
theorem t127_111 (C : xF) (s n : Nat) (z : xS) : x_to q_k127 C s (n + 1) 111 z = x_nx q_k127 C s n ((x_ldi 112 2) C z) := x_to_at f127_111 C s n z
theorem f127_112 : x_fetch q_k127 112 = x_st (x_icne 126 115) := rfl
theorem t127_112 (C : xF) (s n : Nat) (z : xS) : x_to q_k127 C s (n + 1) 112 z = x_nx q_k127 C s n ((x_st (x_icne 126 115)) C z) := x_to_at f127_112 C s n z
theorem f127_115 : x_fetch q_k127 115 = x_lda 116 0 := rfl
theorem t127_115 (C : xF) (s n : Nat) (z : xS) : x_to q_k127 C s (n + 1) 115 z = x_nx q_k127 C s n ((x_lda 116 0) C z) := x_to_at f127_115 C s n z
theorem f127_116 : x_fetch q_k127 116 = x_lda 117 0 := rfl
theorem t127_116 (C : xF) (s n : Nat) (z : xS) : x_to q_k127 C s (n + 1) 116 z = x_nx q_k127 C s n ((x_lda 117 0) C z) := x_to_at f127_116 C s n z
theorem f127_117 : x_fetch q_k127 117 = x_ldi 118 3 := rfl
theorem t127_117 (C : xF) (s n : Nat) (z : xS) : x_to q_k127 C s (n + 1) 117 z = x_nx q_k127 C s n ((x_ldi 118 3) C z) := x_to_at f127_117 C s n z
theorem f127_118 : x_fetch q_k127 118 = x_cv 121 109 2 8 := rfl
theorem t127_118 (C : xF) (s n : Nat) (z : xS) : x_to q_k127 C s (n + 1) 118 z = x_nx q_k127 C s n ((x_cv 121 109 2 8) C z) := x_to_at f127_118 C s n z
theorem f127_121 : x_fetch q_k127 121 = x_ldi 123 7 := rfl
theorem t127_121 (C : xF) (s n : Nat) (z : xS) : x_to q_k127 C s (n + 1) 121 z = x_nx q_k127 C s n ((x_ldi 123 7) C z) := x_to_at f127_121 C s n z
theorem f127_123 : x_fetch q_k127 123 = x_cv 126 114 3 8 := rfl
theorem t127_123 (C : xF) (s n : Nat) (z : xS) : x_to q_k127 C s (n + 1) 123 z = x_nx q_k127 C s n ((x_cv 126 114 3 8) C z) := x_to_at f127_123 C s n z
theorem f127_126 : x_fetch q_k127 126 = x_lda 127 0 := rfl
theorem t127_126 (C : xF) (s n : Nat) (z : xS) : x_to q_k127 C s (n + 1) 126 z = x_nx q_k127 C s n ((x_lda 127 0) C z) := x_to_at f127_126 C s n z
theorem f127_127 : x_fetch q_k127 127 = x_cv 130 116 1 8 := rfl
theorem t127_127 (C : xF) (s n : Nat) (z : xS) : x_to q_k127 C s (n + 1) 127 z = x_nx q_k127 C s n ((x_cv 130 116 1 8) C z) := x_to_at f127_127 C s n z
theorem f127_130 : x_fetch q_k127 130 = x_iinc 133 5 (1) := rfl
theorem t127_130 (C : xF) (s n : Nat) (z : xS) : x_to q_k127 C s (n + 1) 130 z = x_nx q_k127 C s n ((x_iinc 133 5 (1)) C z) := x_to_at f127_130 C s n z
theorem f127_133 : x_fetch q_k127 133 = x_st (x_goto 3) := rfl
theorem t127_133 (C : xF) (s n : Nat) (z : xS) : x_to q_k127 C s (n + 1) 133 z = x_nx q_k127 C s n ((x_st (x_goto 3)) C z) := x_to_at f127_133 C s n z
theorem f127_136 : x_fetch q_k127 136 = x_rv := rfl
theorem t127_136 (C : xF) (s n : Nat) (z : xS) : x_to q_k127 C s (n + 1) 136 z = x_nx q_k127 C s n ((x_rv) C z) := x_to_at f127_136 C s n z
def rew (l : Int) (y : List Int) : Int → List (Int × List Int) → List (Int × List Int)
  | _, [] => []
  | k, x :: t => (if k = l then (x.1, y) else x) :: rew l y (k + 1) t
section RT
variable {N : Nat} {S Bd Ma Be Ng : List Int} {ρ : Int → List Int} {D : List (Int × List Int)} {c : Int}
set_option maxHeartbeats 4000000 in
theorem l127 (d : Nat) (hN : 53 ≤ N) (hO : SOK S) (hρ : BdOK S Bd ρ) (hC : RC c D Ma Be Ng) (hL : LD 44 D S) (l : Nat) (t by_ : Int) (tl : (44 : Int) + stC D l ≤ t) (th : t + (tm S t.toNat).length ≤ 44 + stC D (l + 1)) (tT : Ts 1 (tm S t.toNat)) (y0 : 0 ≤ by_) (yT : Ts 1 (tm S by_.toNat)) (y1 : by_ + (tm S by_.toNat).length ≤ 160) (hlD : l < D.length) :
    ∀ (r : Nat) (k : Nat) (w : Nat → xC) (m : Nat → Int) (R Sa Mi St En : List Int) (o : Option (List (Int × List Int))) (lv : xL), k + r = D.length → w 45 = cI 0 S → w 46 = cI 0 Bd → w 30 = cI 0 Ma → w 29 = cI 0 Be → w 33 = cI 1 Ng → WK w m R Sa Mi St En → BtS o m R Sa Mi → (∀ C, o = some C → C.length + r < 13) → c1 lv → x_lk lv 0 = some (.ref 30) → x_lk lv 1 = some (.int (iZ c)) → x_lk lv 2 = some (.int (iZ (l : Int))) → x_lk lv 3 = some (.int (iZ t)) → x_lk lv 4 = some (.int (iZ by_)) → x_lk lv 5 = some (.int (iZ (k : Int))) →
    OG (d + 3) 3 q_k127 N w m lv (mk1 o ((rew l (seg S (44 + stC D l) t ++ (tm S by_.toNat ++ seg S (t + (tm S t.toNat).length) (44 + stC D (l + 1)))) k (D.drop k)).map (litS (sgm ρ)))) := by
  obtain ⟨a1, a2, a3, a4, a5, a6, a7, a8, a9⟩ := hC
  have hl0 := hL.1
  have hl1 := hL.2.1
  have hSl := hO.1
  intro r
  induction r with
  | zero =>
    intro k w m R Sa Mi St En o lv hk hS hB hMa hBe hNg hK hB1 hcn hc l0 l1 l2 l3 l4 l5
    have ek : k = D.length := by omega
    subst ek
    rw [List.drop_length]
    refine ⟨w, m, R, Sa, Mi, St, En, Fr.rf _ _, hK, mFr.rf _, by simpa [rew, mk1] using hB1, Gx.fin 40 Cs.tt (fun C _ => ?_)⟩
    have hm := hK.1
    have b1 : (D.length : Int) ≤ (D.length : Int) := Int.le_refl _
    simp (disch := first | (refine c1_id ?_; assumption) | (refine c1_st rfl ?_; repeat (first | assumption | refine c1_st rfl ?_)) | omega) [nx_l, nx_r, nx_n, x_st, x_push, x_bin, x_div, x_un, x_dup, x_pop, x_dup2, x_goto, x_ifeq, x_ifne, x_iflt, x_ifge, x_ifgt, x_ifle, x_iceq, x_icne, x_iclt, x_icge, x_icgt, x_icle, x_ifnull, x_ifnonnull, x_ldi, x_lda, x_sti, x_sta, x_iinc, x_gf, x_pf, x_ald, x_ast, x_aln, x_len, x_cl_, x_cv, x_cs, x_rc, x_r0, x_isT, x_oi, x_rv, x_ri, x_ra, Value.category, t127_0, t127_1, t127_3, t127_5, t127_6, t127_9, t127_10, t127_11, t127_14, t127_15, t127_18, t127_21, t127_23, t127_24, t127_27, t127_29, t127_30, t127_31, t127_33, t127_34, t127_35, t127_36, t127_38, t127_40, t127_41, t127_44, t127_46, t127_47, t127_48, t127_50, t127_51, t127_52, t127_53, t127_54, t127_55, t127_57, t127_58, t127_59, t127_62, t127_64, t127_65, t127_66, t127_68, t127_69, t127_70, t127_73, t127_74, t127_76, t127_78, t127_79, t127_82, t127_83, t127_86, t127_88, t127_91, t127_93, t127_94, t127_97, t127_98, t127_100, t127_101, t127_103, t127_106, t127_109, t127_111, t127_112, t127_115, t127_116, t127_117, t127_118, t127_121, t127_123, t127_126, t127_127, t127_130, t127_133, t127_136, lk_s, hp_get, hp_set, uH_at, uH_ne, uH_upd, uH_swap, iZ_add, iZ_sub, iZ_mul, iZ_neg, iZ_lt, iZ_le, iZ_eq, iZ_div, iZ_of, ix_Z, gZ_map, gZ_mapI, gZ_map', le_0, le_s, sZ_map, sZ_len, bZ_0, bZ_inj, bZ_t, bZ_f, nr_i, nr_0, nr_1, nr_b, ft_i, ft_b, ft_0, ft_1, zl_0, zl_1, zl_7, zl_44, mF_len, mg_0, mg_1, mg_2, mg_3, mg_4, mg_5, mg_6, mg_7, mg_8, mg_9, mg_10, mg_11, mg_12, mg_13, mg_14, mg_15, mg_16, mg_17, mg_18, mg_19, mg_20, mg_21, mg_22, mg_23, mg_24, mg_25, mg_26, mg_27, mg_28, mg_29, mg_30, mg_31, mg_32, mg_33, mg_34, mg_35, mg_36, mg_37, mg_38, ms_0, ms_1, ms_2, ms_13, ms_14, ms_15, ms_16, ms_21, ms_22, ms_23, ms_24, ms_28, ms_36, ms_37, ms_38, st_at, st_ne, st_st, st_swap, l0, l1, l5, hm, hMa, a7, b1, -List.filter_filter, -List.getElem?_map, -List.getD_eq_getElem?_getD]
  | succ r ih =>
    intro k w m R Sa Mi St En o lv hk hS hB hMa hBe hNg hK hB1 hcn hc l0 l1 l2 l3 l4 l5
    have hm := hK.1
    have hkD : k < D.length := by omega
    have b1 : ¬ (D.length : Int) ≤ (k : Int) := by omega
    cases o with
    | none =>
      rw [mk1_none]
      have hg : m 10 = 1 := hB1
      refine ⟨w, m, R, Sa, Mi, St, En, Fr.rf _ _, hK, mFr.rf _, hB1, Gx.fin 40 Cs.tt (fun C _ => ?_)⟩
      simp (disch := first | (refine c1_id ?_; assumption) | (refine c1_st rfl ?_; repeat (first | assumption | refine c1_st rfl ?_)) | omega) [nx_l, nx_r, nx_n, x_st, x_push, x_bin, x_div, x_un, x_dup, x_pop, x_dup2, x_goto, x_ifeq, x_ifne, x_iflt, x_ifge, x_ifgt, x_ifle, x_iceq, x_icne, x_iclt, x_icge, x_icgt, x_icle, x_ifnull, x_ifnonnull, x_ldi, x_lda, x_sti, x_sta, x_iinc, x_gf, x_pf, x_ald, x_ast, x_aln, x_len, x_cl_, x_cv, x_cs, x_rc, x_r0, x_isT, x_oi, x_rv, x_ri, x_ra, Value.category, t127_0, t127_1, t127_3, t127_5, t127_6, t127_9, t127_10, t127_11, t127_14, t127_15, t127_18, t127_21, t127_23, t127_24, t127_27, t127_29, t127_30, t127_31, t127_33, t127_34, t127_35, t127_36, t127_38, t127_40, t127_41, t127_44, t127_46, t127_47, t127_48, t127_50, t127_51, t127_52, t127_53, t127_54, t127_55, t127_57, t127_58, t127_59, t127_62, t127_64, t127_65, t127_66, t127_68, t127_69, t127_70, t127_73, t127_74, t127_76, t127_78, t127_79, t127_82, t127_83, t127_86, t127_88, t127_91, t127_93, t127_94, t127_97, t127_98, t127_100, t127_101, t127_103, t127_106, t127_109, t127_111, t127_112, t127_115, t127_116, t127_117, t127_118, t127_121, t127_123, t127_126, t127_127, t127_130, t127_133, t127_136, lk_s, hp_get, hp_set, uH_at, uH_ne, uH_upd, uH_swap, iZ_add, iZ_sub, iZ_mul, iZ_neg, iZ_lt, iZ_le, iZ_eq, iZ_div, iZ_of, ix_Z, gZ_map, gZ_mapI, gZ_map', le_0, le_s, sZ_map, sZ_len, bZ_0, bZ_inj, bZ_t, bZ_f, nr_i, nr_0, nr_1, nr_b, ft_i, ft_b, ft_0, ft_1, zl_0, zl_1, zl_7, zl_44, mF_len, mg_0, mg_1, mg_2, mg_3, mg_4, mg_5, mg_6, mg_7, mg_8, mg_9, mg_10, mg_11, mg_12, mg_13, mg_14, mg_15, mg_16, mg_17, mg_18, mg_19, mg_20, mg_21, mg_22, mg_23, mg_24, mg_25, mg_26, mg_27, mg_28, mg_29, mg_30, mg_31, mg_32, mg_33, mg_34, mg_35, mg_36, mg_37, mg_38, ms_0, ms_1, ms_2, ms_13, ms_14, ms_15, ms_16, ms_21, ms_22, ms_23, ms_24, ms_28, ms_36, ms_37, ms_38, st_at, st_ne, st_st, st_swap, l0, l1, l5, hm, hMa, a7, b1, hg, -List.filter_filter, -List.getElem?_map, -List.getD_eq_getElem?_getD]
    | some C =>
      have hg : m 10 = 0 := hB1.2.2.1
      rw [drop_lC hkD]
      obtain ⟨n1, n2⟩ := a9 k hkD
      obtain ⟨bb, hbb⟩ : ∃ bb : Bool, (lC D k).1 = bZ bb := by
        rcases n2 with n2 | n2
        · exact ⟨false, n2⟩
        · exact ⟨true, n2⟩
      have hcl := hcn C rfl
      obtain ⟨w1, Sa1, Mi1, f1, K1, L1, X1⟩ := A115 (d + 2) hN hK hB1 (by omega) bb
      have e7 := a8 k (by omega)
      have e8 := a8 (k + 1) (by omega)
      rw [show 7 * c + ((k + 1 : Nat) : Int) = 7 * c + (k : Int) + 1 by omega] at e8
      have es := stC_succ hkD
      have es2 := stC_mono (C := D) (show k + 1 ≤ D.length from hkD)
      rw [stC_all] at es2
      have C6 := c1_st (i := 6) (v := .int (iZ (44 + (stC D k : Int)))) rfl hc
      have C7 := c1_st (i := 7) (v := .int (iZ (44 + (stC D (k + 1) : Int)))) rfl C6
      have q0 : x_lk ((7, .int (iZ (44 + (stC D (k + 1) : Int)))) :: List.filter (x_keep 7) ((6, .int (iZ (44 + (stC D k : Int)))) :: List.filter (x_keep 6) lv)) 0 = some (.ref 30) := by rw [lk_s C6, lk_s hc]; exact l0
      have q1 : x_lk ((7, .int (iZ (44 + (stC D (k + 1) : Int)))) :: List.filter (x_keep 7) ((6, .int (iZ (44 + (stC D k : Int)))) :: List.filter (x_keep 6) lv)) 1 = some (.int (iZ c)) := by rw [lk_s C6, lk_s hc]; exact l1
      have q2 : x_lk ((7, .int (iZ (44 + (stC D (k + 1) : Int)))) :: List.filter (x_keep 7) ((6, .int (iZ (44 + (stC D k : Int)))) :: List.filter (x_keep 6) lv)) 2 = some (.int (iZ (l : Int))) := by rw [lk_s C6, lk_s hc]; exact l2
      have q3 : x_lk ((7, .int (iZ (44 + (stC D (k + 1) : Int)))) :: List.filter (x_keep 7) ((6, .int (iZ (44 + (stC D k : Int)))) :: List.filter (x_keep 6) lv)) 3 = some (.int (iZ t)) := by rw [lk_s C6, lk_s hc]; exact l3
      have q4 : x_lk ((7, .int (iZ (44 + (stC D (k + 1) : Int)))) :: List.filter (x_keep 7) ((6, .int (iZ (44 + (stC D k : Int)))) :: List.filter (x_keep 6) lv)) 4 = some (.int (iZ by_)) := by rw [lk_s C6, lk_s hc]; exact l4
      have q5 : x_lk ((7, .int (iZ (44 + (stC D (k + 1) : Int)))) :: List.filter (x_keep 7) ((6, .int (iZ (44 + (stC D k : Int)))) :: List.filter (x_keep 6) lv)) 5 = some (.int (iZ (k : Int))) := by rw [lk_s C6, lk_s hc]; exact l5
      have q6 : x_lk ((7, .int (iZ (44 + (stC D (k + 1) : Int)))) :: List.filter (x_keep 7) ((6, .int (iZ (44 + (stC D k : Int)))) :: List.filter (x_keep 6) lv)) 6 = some (.int (iZ (44 + (stC D k : Int)))) := by rw [lk_s C6, lk_s hc]; rfl
      have q7 : x_lk ((7, .int (iZ (44 + (stC D (k + 1) : Int)))) :: List.filter (x_keep 7) ((6, .int (iZ (44 + (stC D k : Int)))) :: List.filter (x_keep 6) lv)) 7 = some (.int (iZ (44 + (stC D (k + 1) : Int)))) := by rw [lk_s C6]; rfl
      generalize elv : ((7, .int (iZ (44 + (stC D (k + 1) : Int)))) :: List.filter (x_keep 7) ((6, .int (iZ (44 + (stC D k : Int)))) :: List.filter (x_keep 6) lv)) = lv2 at C7 q0 q1 q2 q3 q4 q5 q6 q7
      have first : ∀ res, Gx q_k127 (d + 3) 73 (lv2, [], hp w1 N) res → Gx q_k127 (d + 3) 3 (lv, [], hp w N) res := fun res h => by
        refine Gx.run 80 X1 (fun C mm => ?_) h
        rw [← hbb, ← n1] at mm
        rw [← elv, ← e7, ← e8]
        simp (disch := first | (refine c1_id ?_; assumption) | (refine c1_st rfl ?_; repeat (first | assumption | refine c1_st rfl ?_)) | omega) [nx_l, nx_r, nx_n, x_st, x_push, x_bin, x_div, x_un, x_dup, x_pop, x_dup2, x_goto, x_ifeq, x_ifne, x_iflt, x_ifge, x_ifgt, x_ifle, x_iceq, x_icne, x_iclt, x_icge, x_icgt, x_icle, x_ifnull, x_ifnonnull, x_ldi, x_lda, x_sti, x_sta, x_iinc, x_gf, x_pf, x_ald, x_ast, x_aln, x_len, x_cl_, x_cv, x_cs, x_rc, x_r0, x_isT, x_oi, x_rv, x_ri, x_ra, Value.category, t127_0, t127_1, t127_3, t127_5, t127_6, t127_9, t127_10, t127_11, t127_14, t127_15, t127_18, t127_21, t127_23, t127_24, t127_27, t127_29, t127_30, t127_31, t127_33, t127_34, t127_35, t127_36, t127_38, t127_40, t127_41, t127_44, t127_46, t127_47, t127_48, t127_50, t127_51, t127_52, t127_53, t127_54, t127_55, t127_57, t127_58, t127_59, t127_62, t127_64, t127_65, t127_66, t127_68, t127_69, t127_70, t127_73, t127_74, t127_76, t127_78, t127_79, t127_82, t127_83, t127_86, t127_88, t127_91, t127_93, t127_94, t127_97, t127_98, t127_100, t127_101, t127_103, t127_106, t127_109, t127_111, t127_112, t127_115, t127_116, t127_117, t127_118, t127_121, t127_123, t127_126, t127_127, t127_130, t127_133, t127_136, lk_s, hp_get, hp_set, uH_at, uH_ne, uH_upd, uH_swap, iZ_add, iZ_sub, iZ_mul, iZ_neg, iZ_lt, iZ_le, iZ_eq, iZ_div, iZ_of, ix_Z, gZ_map, gZ_mapI, gZ_map', le_0, le_s, sZ_map, sZ_len, bZ_0, bZ_inj, bZ_t, bZ_f, nr_i, nr_0, nr_1, nr_b, ft_i, ft_b, ft_0, ft_1, zl_0, zl_1, zl_7, zl_44, mF_len, mg_0, mg_1, mg_2, mg_3, mg_4, mg_5, mg_6, mg_7, mg_8, mg_9, mg_10, mg_11, mg_12, mg_13, mg_14, mg_15, mg_16, mg_17, mg_18, mg_19, mg_20, mg_21, mg_22, mg_23, mg_24, mg_25, mg_26, mg_27, mg_28, mg_29, mg_30, mg_31, mg_32, mg_33, mg_34, mg_35, mg_36, mg_37, mg_38, ms_0, ms_1, ms_2, ms_13, ms_14, ms_15, ms_16, ms_21, ms_22, ms_23, ms_24, ms_28, ms_36, ms_37, ms_38, st_at, st_ne, st_st, st_swap, l0, l1, l5, hm, hMa, hBe, hNg, a7, b1, hg, mm, -List.filter_filter, -List.getElem?_map, -List.getD_eq_getElem?_getD]
      -- the tail: end, and on
      have tail : ∀ (w2 : Nat → xC) (m2 : Nat → Int) (R2 St2 En2 : List Int) (o2 : Option (List Int)) (x : Int × List Int), Fr ksW w w2 → WK w2 m2 R2 Sa1 Mi1 St2 En2 → mFr m m2 → LtS C (bZ bb) o2 m2 R2 Sa1 Mi1 → x.1 = bZ bb → o2 = (if (sub (sgm ρ) x.2).length ≤ 40 then some (sub (sgm ρ) x.2) else none) → rew l (seg S (44 + stC D l) t ++ (tm S by_.toNat ++ seg S (t + (tm S t.toNat).length) (44 + stC D (l + 1)))) k (lC D k :: D.drop (k + 1)) = x :: rew l (seg S (44 + stC D l) t ++ (tm S by_.toNat ++ seg S (t + (tm S t.toNat).length) (44 + stC D (l + 1)))) ((k + 1 : Nat) : Int) (D.drop (k + 1)) → OG (d + 3) 126 q_k127 N w2 m lv2 (mk1 (some C) ((rew l (seg S (44 + stC D l) t ++ (tm S by_.toNat ++ seg S (t + (tm S t.toNat).length) (44 + stC D (l + 1)))) k (lC D k :: D.drop (k + 1))).map (litS (sgm ρ)))) := by
        intro w2 m2 R2 St2 En2 o2 x f2 K2 M2 L2 ex eo er_
        rw [er_, List.map_cons]
        obtain ⟨w3, m3, Sa3, f3, K3, M3, L3, X3⟩ := A116 (d + 1) hN K2 L2 (by omega)
        have C8 := c1_st (i := 5) (v := .int (iZ ((k : Int) + 1))) rfl C7
        have eo2 : Option.map (fun t => adL C (bZ bb, t)) o2 = (if (litS (sgm ρ) x).2.length ≤ 40 then some (adL C (litS (sgm ρ) x)) else none) := by
          rw [eo]
          show _ = (if (sub (sgm ρ) x.2).length ≤ 40 then some (adL C (x.1, sub (sgm ρ) x.2)) else none)
          rw [ex]
          by_cases h40 : (sub (sgm ρ) x.2).length ≤ 40
          · rw [if_pos h40, if_pos h40]
            rfl
          · rw [if_neg h40, if_neg h40]
            rfl
        rw [eo2] at L3
        have f123 : Fr ksW w w3 := f2.tr f3
        obtain ⟨w', m', R', Sa', Mi', St', En', g1, g2, g3, g4, g5⟩ := ih (k + 1) w3 m3 R2 Sa3 Mi1 St2 En2 _ _ (by omega) ((f123 45 (by decide)).trans hS) ((f123 46 (by decide)).trans hB) ((f123 30 (by decide)).trans hMa) ((f123 29 (by decide)).trans hBe) ((f123 33 (by decide)).trans hNg) K3 L3 (fun C' e' => by
          have hle : (adL C (litS (sgm ρ) x)).length ≤ C.length + 1 := by
            unfold adL
            split
            · omega
            · simp
          split at e'
          · cases e'
            omega
          · cases e') C8 (by rw [lk_s C7]; exact q0) (by rw [lk_s C7]; exact q1) (by rw [lk_s C7]; exact q2) (by rw [lk_s C7]; exact q3) (by rw [lk_s C7]; exact q4) (by rw [lk_s C7]; rfl)
        refine ⟨w', m', R', Sa', Mi', St', En', f3.tr g1, g2, (M2.tr M3).tr g3, ?_, ?_⟩
        · exact g4
        · have hm2 := K2.1
          refine Gx.run 40 X3 (fun C mm => ?_) g5
          simp (disch := first | (refine c1_id ?_; assumption) | (refine c1_st rfl ?_; repeat (first | assumption | refine c1_st rfl ?_)) | omega) [nx_l, nx_r, nx_n, x_st, x_push, x_bin, x_div, x_un, x_dup, x_pop, x_dup2, x_goto, x_ifeq, x_ifne, x_iflt, x_ifge, x_ifgt, x_ifle, x_iceq, x_icne, x_iclt, x_icge, x_icgt, x_icle, x_ifnull, x_ifnonnull, x_ldi, x_lda, x_sti, x_sta, x_iinc, x_gf, x_pf, x_ald, x_ast, x_aln, x_len, x_cl_, x_cv, x_cs, x_rc, x_r0, x_isT, x_oi, x_rv, x_ri, x_ra, Value.category, t127_0, t127_1, t127_3, t127_5, t127_6, t127_9, t127_10, t127_11, t127_14, t127_15, t127_18, t127_21, t127_23, t127_24, t127_27, t127_29, t127_30, t127_31, t127_33, t127_34, t127_35, t127_36, t127_38, t127_40, t127_41, t127_44, t127_46, t127_47, t127_48, t127_50, t127_51, t127_52, t127_53, t127_54, t127_55, t127_57, t127_58, t127_59, t127_62, t127_64, t127_65, t127_66, t127_68, t127_69, t127_70, t127_73, t127_74, t127_76, t127_78, t127_79, t127_82, t127_83, t127_86, t127_88, t127_91, t127_93, t127_94, t127_97, t127_98, t127_100, t127_101, t127_103, t127_106, t127_109, t127_111, t127_112, t127_115, t127_116, t127_117, t127_118, t127_121, t127_123, t127_126, t127_127, t127_130, t127_133, t127_136, lk_s, hp_get, hp_set, uH_at, uH_ne, uH_upd, uH_swap, iZ_add, iZ_sub, iZ_mul, iZ_neg, iZ_lt, iZ_le, iZ_eq, iZ_div, iZ_of, ix_Z, gZ_map, gZ_mapI, gZ_map', le_0, le_s, sZ_map, sZ_len, bZ_0, bZ_inj, bZ_t, bZ_f, nr_i, nr_0, nr_1, nr_b, ft_i, ft_b, ft_0, ft_1, zl_0, zl_1, zl_7, zl_44, mF_len, mg_0, mg_1, mg_2, mg_3, mg_4, mg_5, mg_6, mg_7, mg_8, mg_9, mg_10, mg_11, mg_12, mg_13, mg_14, mg_15, mg_16, mg_17, mg_18, mg_19, mg_20, mg_21, mg_22, mg_23, mg_24, mg_25, mg_26, mg_27, mg_28, mg_29, mg_30, mg_31, mg_32, mg_33, mg_34, mg_35, mg_36, mg_37, mg_38, ms_0, ms_1, ms_2, ms_13, ms_14, ms_15, ms_16, ms_21, ms_22, ms_23, ms_24, ms_28, ms_36, ms_37, ms_38, st_at, st_ne, st_st, st_swap, q0, q5, hm2, mm, -List.filter_filter, -List.getElem?_map, -List.getD_eq_getElem?_getD]
      have fS1 := (f1 45 (by decide)).trans hS
      have fB1 := (f1 46 (by decide)).trans hB
      have hm1 := K1.1
      by_cases hkl : k = l
      · subst hkl
        have T1 := Ts_len tT
        obtain ⟨w2, m2, R2, St2, En2, f2, K2, M2, L2, X2⟩ := A114 d hN K1 L1 (by omega) fS1 hO fB1 hρ (44 + stC D k) t (by omega) (by omega) (by omega)
        have f12 := f1.tr f2
        have fS2 := (f12 45 (by decide)).trans hS
        have fB2 := (f12 46 (by decide)).trans hB
        have hm2 := K2.1
        obtain ⟨w3, m3, R3, St3, En3, f3, K3, M3, L3, X3⟩ := A114 d hN K2 L2 (by omega) fS2 hO fB2 hρ by_ (by_ + (tm S by_.toNat).length) y0 (by omega) (by omega)
        have f13 := f12.tr f3
        have fS3 := (f13 45 (by decide)).trans hS
        have fB3 := (f13 46 (by decide)).trans hB
        have hm3 := K3.1
        obtain ⟨w4, m4, R4, St4, En4, f4, K4, M4, L4, X4⟩ := A114 d hN K3 L3 (by omega) fS3 hO fB3 hρ (t + (tm S t.toNat).length) (44 + stC D (k + 1)) (by omega) th (by omega)
        rw [seg_tm y0] at L4
        have B3 := m109 (d + 1) hN hm2 fS2 (by omega) hO.2.1 by_ y0 yT
        have B4 := m109 (d + 1) hN hm3 fS3 (by omega) hO.2.1 t (by omega) tT
        obtain ⟨w', m', R', Sa', Mi', St', En', g1, g2, g3, g4, g5⟩ := tail w4 m4 R4 St4 En4 _ ((lC D k).1, seg S (44 + stC D k) t ++ (tm S by_.toNat ++ seg S (t + (tm S t.toNat).length) (44 + stC D (k + 1)))) (f13.tr f4) K4 ((M2.tr M3).tr M4) L4 hbb (by
          show spO (spO (if _ then _ else _) _) _ = _
          rw [sub_app, sub_app, List.length_append, List.length_append, List.length_nil, Nat.zero_add, List.nil_append]
          by_cases z1 : (sub (sgm ρ) (seg S (44 + stC D k) t)).length ≤ 40
          · rw [if_pos z1]
            show spO (if _ then _ else _) _ = _
            by_cases z2 : (sub (sgm ρ) (seg S (44 + stC D k) t)).length + (sub (sgm ρ) (tm S by_.toNat)).length ≤ 40
            · rw [if_pos z2]
              show (if _ then _ else _) = _
              rw [List.length_append]
              by_cases z3 : (sub (sgm ρ) (seg S (44 + stC D k) t)).length + (sub (sgm ρ) (tm S by_.toNat)).length + (sub (sgm ρ) (seg S (t + (tm S t.toNat).length) (44 + stC D (k + 1)))).length ≤ 40
              · rw [if_pos z3, if_pos (by omega), List.append_assoc]
              · rw [if_neg z3, if_neg (by omega)]
            · rw [if_neg z2, if_neg (by omega)]
              rfl
          · rw [if_neg z1, if_neg (by omega)]
            rfl) (by
          show (if (k : Int) = (k : Int) then _ else _) :: _ = _
          rw [if_pos rfl]
          rfl)
        refine ⟨w', m', R', Sa', Mi', St', En', (f13.tr f4).tr g1, g2, g3, g4, first _ ?_⟩
        refine Gx.run 60 X2 (fun C mm => ?_) (pc' := 91) (z' := (lv2, [], hp w2 N)) ?_
        · simp (disch := first | (refine c1_id ?_; assumption) | (refine c1_st rfl ?_; repeat (first | assumption | refine c1_st rfl ?_)) | omega) [nx_l, nx_r, nx_n, x_st, x_push, x_bin, x_div, x_un, x_dup, x_pop, x_dup2, x_goto, x_ifeq, x_ifne, x_iflt, x_ifge, x_ifgt, x_ifle, x_iceq, x_icne, x_iclt, x_icge, x_icgt, x_icle, x_ifnull, x_ifnonnull, x_ldi, x_lda, x_sti, x_sta, x_iinc, x_gf, x_pf, x_ald, x_ast, x_aln, x_len, x_cl_, x_cv, x_cs, x_rc, x_r0, x_isT, x_oi, x_rv, x_ri, x_ra, Value.category, t127_0, t127_1, t127_3, t127_5, t127_6, t127_9, t127_10, t127_11, t127_14, t127_15, t127_18, t127_21, t127_23, t127_24, t127_27, t127_29, t127_30, t127_31, t127_33, t127_34, t127_35, t127_36, t127_38, t127_40, t127_41, t127_44, t127_46, t127_47, t127_48, t127_50, t127_51, t127_52, t127_53, t127_54, t127_55, t127_57, t127_58, t127_59, t127_62, t127_64, t127_65, t127_66, t127_68, t127_69, t127_70, t127_73, t127_74, t127_76, t127_78, t127_79, t127_82, t127_83, t127_86, t127_88, t127_91, t127_93, t127_94, t127_97, t127_98, t127_100, t127_101, t127_103, t127_106, t127_109, t127_111, t127_112, t127_115, t127_116, t127_117, t127_118, t127_121, t127_123, t127_126, t127_127, t127_130, t127_133, t127_136, lk_s, hp_get, hp_set, uH_at, uH_ne, uH_upd, uH_swap, iZ_add, iZ_sub, iZ_mul, iZ_neg, iZ_lt, iZ_le, iZ_eq, iZ_div, iZ_of, ix_Z, gZ_map, gZ_mapI, gZ_map', le_0, le_s, sZ_map, sZ_len, bZ_0, bZ_inj, bZ_t, bZ_f, nr_i, nr_0, nr_1, nr_b, ft_i, ft_b, ft_0, ft_1, zl_0, zl_1, zl_7, zl_44, mF_len, mg_0, mg_1, mg_2, mg_3, mg_4, mg_5, mg_6, mg_7, mg_8, mg_9, mg_10, mg_11, mg_12, mg_13, mg_14, mg_15, mg_16, mg_17, mg_18, mg_19, mg_20, mg_21, mg_22, mg_23, mg_24, mg_25, mg_26, mg_27, mg_28, mg_29, mg_30, mg_31, mg_32, mg_33, mg_34, mg_35, mg_36, mg_37, mg_38, ms_0, ms_1, ms_2, ms_13, ms_14, ms_15, ms_16, ms_21, ms_22, ms_23, ms_24, ms_28, ms_36, ms_37, ms_38, st_at, st_ne, st_st, st_swap, q0, q2, q3, q5, q6, q7, hm1, mm, -List.filter_filter, -List.getElem?_map, -List.getD_eq_getElem?_getD]
        refine Gx.run 60 (X3.and (B3.up (by omega))) (fun C mm => ?_) (pc' := 109) (z' := (lv2, [], hp w3 N)) ?_
        · obtain ⟨mm1, mm2⟩ := mm
          simp (disch := first | (refine c1_id ?_; assumption) | (refine c1_st rfl ?_; repeat (first | assumption | refine c1_st rfl ?_)) | omega) [nx_l, nx_r, nx_n, x_st, x_push, x_bin, x_div, x_un, x_dup, x_pop, x_dup2, x_goto, x_ifeq, x_ifne, x_iflt, x_ifge, x_ifgt, x_ifle, x_iceq, x_icne, x_iclt, x_icge, x_icgt, x_icle, x_ifnull, x_ifnonnull, x_ldi, x_lda, x_sti, x_sta, x_iinc, x_gf, x_pf, x_ald, x_ast, x_aln, x_len, x_cl_, x_cv, x_cs, x_rc, x_r0, x_isT, x_oi, x_rv, x_ri, x_ra, Value.category, t127_0, t127_1, t127_3, t127_5, t127_6, t127_9, t127_10, t127_11, t127_14, t127_15, t127_18, t127_21, t127_23, t127_24, t127_27, t127_29, t127_30, t127_31, t127_33, t127_34, t127_35, t127_36, t127_38, t127_40, t127_41, t127_44, t127_46, t127_47, t127_48, t127_50, t127_51, t127_52, t127_53, t127_54, t127_55, t127_57, t127_58, t127_59, t127_62, t127_64, t127_65, t127_66, t127_68, t127_69, t127_70, t127_73, t127_74, t127_76, t127_78, t127_79, t127_82, t127_83, t127_86, t127_88, t127_91, t127_93, t127_94, t127_97, t127_98, t127_100, t127_101, t127_103, t127_106, t127_109, t127_111, t127_112, t127_115, t127_116, t127_117, t127_118, t127_121, t127_123, t127_126, t127_127, t127_130, t127_133, t127_136, lk_s, hp_get, hp_set, uH_at, uH_ne, uH_upd, uH_swap, iZ_add, iZ_sub, iZ_mul, iZ_neg, iZ_lt, iZ_le, iZ_eq, iZ_div, iZ_of, ix_Z, gZ_map, gZ_mapI, gZ_map', le_0, le_s, sZ_map, sZ_len, bZ_0, bZ_inj, bZ_t, bZ_f, nr_i, nr_0, nr_1, nr_b, ft_i, ft_b, ft_0, ft_1, zl_0, zl_1, zl_7, zl_44, mF_len, mg_0, mg_1, mg_2, mg_3, mg_4, mg_5, mg_6, mg_7, mg_8, mg_9, mg_10, mg_11, mg_12, mg_13, mg_14, mg_15, mg_16, mg_17, mg_18, mg_19, mg_20, mg_21, mg_22, mg_23, mg_24, mg_25, mg_26, mg_27, mg_28, mg_29, mg_30, mg_31, mg_32, mg_33, mg_34, mg_35, mg_36, mg_37, mg_38, ms_0, ms_1, ms_2, ms_13, ms_14, ms_15, ms_16, ms_21, ms_22, ms_23, ms_24, ms_28, ms_36, ms_37, ms_38, st_at, st_ne, st_st, st_swap, q0, q2, q4, q5, hm2, mm1, mm2, -List.filter_filter, -List.getElem?_map, -List.getD_eq_getElem?_getD]
        refine Gx.run 60 (X4.and (B4.up (by omega))) (fun C mm => ?_) g5
        obtain ⟨mm1, mm2⟩ := mm
        simp (disch := first | (refine c1_id ?_; assumption) | (refine c1_st rfl ?_; repeat (first | assumption | refine c1_st rfl ?_)) | omega) [nx_l, nx_r, nx_n, x_st, x_push, x_bin, x_div, x_un, x_dup, x_pop, x_dup2, x_goto, x_ifeq, x_ifne, x_iflt, x_ifge, x_ifgt, x_ifle, x_iceq, x_icne, x_iclt, x_icge, x_icgt, x_icle, x_ifnull, x_ifnonnull, x_ldi, x_lda, x_sti, x_sta, x_iinc, x_gf, x_pf, x_ald, x_ast, x_aln, x_len, x_cl_, x_cv, x_cs, x_rc, x_r0, x_isT, x_oi, x_rv, x_ri, x_ra, Value.category, t127_0, t127_1, t127_3, t127_5, t127_6, t127_9, t127_10, t127_11, t127_14, t127_15, t127_18, t127_21, t127_23, t127_24, t127_27, t127_29, t127_30, t127_31, t127_33, t127_34, t127_35, t127_36, t127_38, t127_40, t127_41, t127_44, t127_46, t127_47, t127_48, t127_50, t127_51, t127_52, t127_53, t127_54, t127_55, t127_57, t127_58, t127_59, t127_62, t127_64, t127_65, t127_66, t127_68, t127_69, t127_70, t127_73, t127_74, t127_76, t127_78, t127_79, t127_82, t127_83, t127_86, t127_88, t127_91, t127_93, t127_94, t127_97, t127_98, t127_100, t127_101, t127_103, t127_106, t127_109, t127_111, t127_112, t127_115, t127_116, t127_117, t127_118, t127_121, t127_123, t127_126, t127_127, t127_130, t127_133, t127_136, lk_s, hp_get, hp_set, uH_at, uH_ne, uH_upd, uH_swap, iZ_add, iZ_sub, iZ_mul, iZ_neg, iZ_lt, iZ_le, iZ_eq, iZ_div, iZ_of, ix_Z, gZ_map, gZ_mapI, gZ_map', le_0, le_s, sZ_map, sZ_len, bZ_0, bZ_inj, bZ_t, bZ_f, nr_i, nr_0, nr_1, nr_b, ft_i, ft_b, ft_0, ft_1, zl_0, zl_1, zl_7, zl_44, mF_len, mg_0, mg_1, mg_2, mg_3, mg_4, mg_5, mg_6, mg_7, mg_8, mg_9, mg_10, mg_11, mg_12, mg_13, mg_14, mg_15, mg_16, mg_17, mg_18, mg_19, mg_20, mg_21, mg_22, mg_23, mg_24, mg_25, mg_26, mg_27, mg_28, mg_29, mg_30, mg_31, mg_32, mg_33, mg_34, mg_35, mg_36, mg_37, mg_38, ms_0, ms_1, ms_2, ms_13, ms_14, ms_15, ms_16, ms_21, ms_22, ms_23, ms_24, ms_28, ms_36, ms_37, ms_38, st_at, st_ne, st_st, st_swap, q0, q2, q3, q5, q7, hm3, mm1, mm2, -List.filter_filter, -List.getElem?_map, -List.getD_eq_getElem?_getD]
      · obtain ⟨w2, m2, R2, St2, En2, f2, K2, M2, L2, X2⟩ := A114 d hN K1 L1 (by omega) fS1 hO fB1 hρ (44 + stC D k) (44 + stC D (k + 1)) (by omega) (by omega) (by omega)
        rw [hL.seg hSl hkD] at L2
        obtain ⟨w', m', R', Sa', Mi', St', En', g1, g2, g3, g4, g5⟩ := tail w2 m2 R2 St2 En2 _ (lC D k) (f1.tr f2) K2 M2 L2 hbb (by
          show (if _ then _ else _) = _
          rw [List.length_nil, Nat.zero_add, List.nil_append]) (by
          show (if (k : Int) = (l : Int) then _ else _) :: _ = _
          rw [if_neg (by omega)]
          rfl)
        refine ⟨w', m', R', Sa', Mi', St', En', (f1.tr f2).tr g1, g2, g3, g4, first _ ?_⟩
        refine Gx.run 60 X2 (fun C mm => ?_) g5
        have hkl2 : ¬ (k : Int) = (l : Int) := by omega
        simp (disch := first | (refine c1_id ?_; assumption) | (refine c1_st rfl ?_; repeat (first | assumption | refine c1_st rfl ?_)) | omega) [nx_l, nx_r, nx_n, x_st, x_push, x_bin, x_div, x_un, x_dup, x_pop, x_dup2, x_goto, x_ifeq, x_ifne, x_iflt, x_ifge, x_ifgt, x_ifle, x_iceq, x_icne, x_iclt, x_icge, x_icgt, x_icle, x_ifnull, x_ifnonnull, x_ldi, x_lda, x_sti, x_sta, x_iinc, x_gf, x_pf, x_ald, x_ast, x_aln, x_len, x_cl_, x_cv, x_cs, x_rc, x_r0, x_isT, x_oi, x_rv, x_ri, x_ra, Value.category, t127_0, t127_1, t127_3, t127_5, t127_6, t127_9, t127_10, t127_11, t127_14, t127_15, t127_18, t127_21, t127_23, t127_24, t127_27, t127_29, t127_30, t127_31, t127_33, t127_34, t127_35, t127_36, t127_38, t127_40, t127_41, t127_44, t127_46, t127_47, t127_48, t127_50, t127_51, t127_52, t127_53, t127_54, t127_55, t127_57, t127_58, t127_59, t127_62, t127_64, t127_65, t127_66, t127_68, t127_69, t127_70, t127_73, t127_74, t127_76, t127_78, t127_79, t127_82, t127_83, t127_86, t127_88, t127_91, t127_93, t127_94, t127_97, t127_98, t127_100, t127_101, t127_103, t127_106, t127_109, t127_111, t127_112, t127_115, t127_116, t127_117, t127_118, t127_121, t127_123, t127_126, t127_127, t127_130, t127_133, t127_136, lk_s, hp_get, hp_set, uH_at, uH_ne, uH_upd, uH_swap, iZ_add, iZ_sub, iZ_mul, iZ_neg, iZ_lt, iZ_le, iZ_eq, iZ_div, iZ_of, ix_Z, gZ_map, gZ_mapI, gZ_map', le_0, le_s, sZ_map, sZ_len, bZ_0, bZ_inj, bZ_t, bZ_f, nr_i, nr_0, nr_1, nr_b, ft_i, ft_b, ft_0, ft_1, zl_0, zl_1, zl_7, zl_44, mF_len, mg_0, mg_1, mg_2, mg_3, mg_4, mg_5, mg_6, mg_7, mg_8, mg_9, mg_10, mg_11, mg_12, mg_13, mg_14, mg_15, mg_16, mg_17, mg_18, mg_19, mg_20, mg_21, mg_22, mg_23, mg_24, mg_25, mg_26, mg_27, mg_28, mg_29, mg_30, mg_31, mg_32, mg_33, mg_34, mg_35, mg_36, mg_37, mg_38, ms_0, ms_1, ms_2, ms_13, ms_14, ms_15, ms_16, ms_21, ms_22, ms_23, ms_24, ms_28, ms_36, ms_37, ms_38, st_at, st_ne, st_st, st_swap, q0, q2, q5, q6, q7, hm1, hkl2, mm, -List.filter_filter, -List.getElem?_map, -List.getD_eq_getElem?_getD]
theorem m127 (d : Nat) (hN : 53 ≤ N) (hO : SOK S) (hρ : BdOK S Bd ρ) (hC : RC c D Ma Be Ng) (hL : LD 44 D S) (l : Nat) (t by_ : Int) (tl : (44 : Int) + stC D l ≤ t) (th : t + (tm S t.toNat).length ≤ 44 + stC D (l + 1)) (tT : Ts 1 (tm S t.toNat)) (y0 : 0 ≤ by_) (yT : Ts 1 (tm S by_.toNat)) (y1 : by_ + (tm S by_.toNat).length ≤ 160) (hlD : l < D.length) (w : Nat → xC) (m : Nat → Int) (R Sa Mi St En : List Int) (o : Option (List (Int × List Int))) (hS : w 45 = cI 0 S) (hB : w 46 = cI 0 Bd) (hMa : w 30 = cI 0 Ma) (hBe : w 29 = cI 0 Be) (hNg : w 33 = cI 1 Ng) (hK : WK w m R Sa Mi St En) (hB1 : BtS o m R Sa Mi) (hcn : ∀ C, o = some C → C.length + D.length < 13) :
    ∃ (w' : Nat → xC) (m' : Nat → Int) (R' Sa' Mi' St' En' : List Int), Fr ksW w w' ∧ WK w' m' R' Sa' Mi' St' En' ∧ mFr m m' ∧ BtS (mk1 o ((rew l (seg S (44 + stC D l) t ++ (tm S by_.toNat ++ seg S (t + (tm S t.toNat).length) (44 + stC D (l + 1)))) 0 D).map (litS (sgm ρ)))) m' R' Sa' Mi' ∧ Xc (d + 4) 127 [.ref 30, .int (iZ c), .int (iZ (l : Int)), .int (iZ t), .int (iZ by_)] (hp w N) (none, hp w' N) := by
  have hc : c1 (lv_args 0 [.ref 30, .int (iZ c), .int (iZ (l : Int)), .int (iZ t), .int (iZ by_)]) := by simp [c1, lv_args, Value.category]
  have C1 := c1_st (i := 5) (v := .int (iZ 0)) rfl hc
  obtain ⟨w', m', R', Sa', Mi', St', En', g1, g2, g3, g4, g5⟩ := l127 d hN hO hρ hC hL l t by_ tl th tT y0 yT y1 hlD D.length 0 w m R Sa Mi St En o _ (by omega) hS hB hMa hBe hNg hK hB1 hcn C1 (by rw [lk_s hc]; rfl) (by rw [lk_s hc]; rfl) (by rw [lk_s hc]; rfl) (by rw [lk_s hc]; rfl) (by rw [lk_s hc]; rfl) (by rw [lk_s hc]; rfl)
  rw [List.drop_zero] at g4
  refine ⟨w', m', R', Sa', Mi', St', En', g1, g2, g3, g4, Xc.of rfl (by simp [lg_sl, Value.category]) (Gx.run 20 Cs.tt (fun C _ => ?_) g5) (hp_le (Nat.le_refl _) (fun j _ => WK.le1 g1 hK g2 j))⟩
  simp (disch := first | (refine c1_id ?_; assumption) | (refine c1_st rfl ?_; repeat (first | assumption | refine c1_st rfl ?_)) | omega) [nx_l, nx_r, nx_n, x_st, x_push, x_bin, x_div, x_un, x_dup, x_pop, x_dup2, x_goto, x_ifeq, x_ifne, x_iflt, x_ifge, x_ifgt, x_ifle, x_iceq, x_icne, x_iclt, x_icge, x_icgt, x_icle, x_ifnull, x_ifnonnull, x_ldi, x_lda, x_sti, x_sta, x_iinc, x_gf, x_pf, x_ald, x_ast, x_aln, x_len, x_cl_, x_cv, x_cs, x_rc, x_r0, x_isT, x_oi, x_rv, x_ri, x_ra, Value.category, t127_0, t127_1, t127_3, t127_5, t127_6, t127_9, t127_10, t127_11, t127_14, t127_15, t127_18, t127_21, t127_23, t127_24, t127_27, t127_29, t127_30, t127_31, t127_33, t127_34, t127_35, t127_36, t127_38, t127_40, t127_41, t127_44, t127_46, t127_47, t127_48, t127_50, t127_51, t127_52, t127_53, t127_54, t127_55, t127_57, t127_58, t127_59, t127_62, t127_64, t127_65, t127_66, t127_68, t127_69, t127_70, t127_73, t127_74, t127_76, t127_78, t127_79, t127_82, t127_83, t127_86, t127_88, t127_91, t127_93, t127_94, t127_97, t127_98, t127_100, t127_101, t127_103, t127_106, t127_109, t127_111, t127_112, t127_115, t127_116, t127_117, t127_118, t127_121, t127_123, t127_126, t127_127, t127_130, t127_133, t127_136, lk_s, hp_get, hp_set, uH_at, uH_ne, uH_upd, uH_swap, iZ_add, iZ_sub, iZ_mul, iZ_neg, iZ_lt, iZ_le, iZ_eq, iZ_div, iZ_of, ix_Z, gZ_map, gZ_mapI, gZ_map', le_0, le_s, sZ_map, sZ_len, bZ_0, bZ_inj, bZ_t, bZ_f, nr_i, nr_0, nr_1, nr_b, ft_i, ft_b, ft_0, ft_1, zl_0, zl_1, zl_7, zl_44, mF_len, mg_0, mg_1, mg_2, mg_3, mg_4, mg_5, mg_6, mg_7, mg_8, mg_9, mg_10, mg_11, mg_12, mg_13, mg_14, mg_15, mg_16, mg_17, mg_18, mg_19, mg_20, mg_21, mg_22, mg_23, mg_24, mg_25, mg_26, mg_27, mg_28, mg_29, mg_30, mg_31, mg_32, mg_33, mg_34, mg_35, mg_36, mg_37, mg_38, ms_0, ms_1, ms_2, ms_13, ms_14, ms_15, ms_16, ms_21, ms_22, ms_23, ms_24, ms_28, ms_36, ms_37, ms_38, st_at, st_ne, st_st, st_swap, lv_args, x_lk, -List.filter_filter, -List.getElem?_map, -List.getD_eq_getElem?_getD]
end RT
