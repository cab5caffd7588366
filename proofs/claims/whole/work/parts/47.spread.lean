/-! the reference: a row of places laid out with all that is bound -/
theorem f114_0 : x_fetch q_k114 0 = x_st (x_push 1 (.int (1))) := rfl
theorem t114_0 (C : xF) (s n : Nat) (z : xS) : x_to q_k114 C s (n + 1) 0 z = x_nx q_k114 C s n ((x_st (x_push 1 (.int (1)))) C z) := x_to_at f114_0 C s n z
theorem f114_1 : x_fetch q_k114 1 = x_sti 2 3 := rfl
theorem t114_1 (C : xF) (s n : Nat) (z : xS) : x_to q_k114 C s (n + 1) 1 z = x_nx q_k114 C s n ((x_sti 2 3) C z) := x_to_at f114_1 C s n z
theorem f114_2 : x_fetch q_k114 2 = x_lda 3 0 := rfl
theorem t114_2 (C : xF) (s n : Nat) (z : xS) : x_to q_k114 C s (n + 1) 2 z = x_nx q_k114 C s n ((x_lda 3 0) C z) := x_to_at f114_2 C s n z
theorem f114_3 : x_fetch q_k114 3 = x_gf 6 8 33 := rfl
theorem t114_3 (C : xF) (s n : Nat) (z : xS) : x_to q_k114 C s (n + 1) 3 z = x_nx q_k114 C s n ((x_gf 6 8 33) C z) := x_to_at f114_3 C s n z
theorem f114_6 : x_fetch q_k114 6 = x_st (x_push 7 (.int (0))) := rfl
theorem t114_6 (C : xF) (s n : Nat) (z : xS) : x_to q_k114 C s (n + 1) 6 z = x_nx q_k114 C s n ((x_st (x_push 7 (.int (0)))) C z) := x_to_at f114_6 C s n z
theorem f114_7 : x_fetch q_k114 7 = x_ldi 8 1 := rfl
theorem t114_7 (C : xF) (s n : Nat) (z : xS) : x_to q_k114 C s (n + 1) 7 z = x_nx q_k114 C s n ((x_ldi 8 1) C z) := x_to_at f114_7 C s n z
theorem f114_8 : x_fetch q_k114 8 = x_ast 9 0 (fun x => x) := rfl
theorem t114_8 (C : xF) (s n : Nat) (z : xS) : x_to q_k114 C s (n + 1) 8 z = x_nx q_k114 C s n ((x_ast 9 0 (fun x => x)) C z) := x_to_at f114_8 C s n z
theorem f114_9 : x_fetch q_k114 9 = x_lda 10 0 := rfl
theorem t114_9 (C : xF) (s n : Nat) (z : xS) : x_to q_k114 C s (n + 1) 9 z = x_nx q_k114 C s n ((x_lda 10 0) C z) := x_to_at f114_9 C s n z
theorem f114_10 : x_fetch q_k114 10 = x_gf 13 8 34 := rfl
theorem t114_10 (C : xF) (s n : Nat) (z : xS) : x_to q_k114 C s (n + 1) 10 z = x_nx q_k114 C s n ((x_gf 13 8 34) C z) := x_to_at f114_10 C s n z
theorem f114_13 : x_fetch q_k114 13 = x_st (x_push 14 (.int (0))) := rfl
theorem t114_13 (C : xF) (s n : Nat) (z : xS) : x_to q_k114 C s (n + 1) 13 z = x_nx q_k114 C s n ((x_st (x_push 14 (.int (0)))) C z) := x_to_at f114_13 C s n z
theorem f114_14 : x_fetch q_k114 14 = x_ldi 15 2 := rfl
theorem t114_14 (C : xF) (s n : Nat) (z : xS) : x_to q_k114 C s (n + 1) 14 z = x_nx q_k114 C s n ((x_ldi 15 2) C z) := x_to_at f114_14 C s n z
theorem f114_15 : x_fetch q_k114 15 = x_ast 16 0 (fun x => x) := rfl
theorem t114_15 (C : xF) (s n : Nat) (z : xS) : x_to q_k114 C s (n + 1) 15 z = x_nx q_k114 C s n ((x_ast 16 0 (fun x => x)) C z) := x_to_at f114_15 C s n z
theorem f114_16 : x_fetch q_k114 16 = x_ldi 17 3 := rfl
theorem t114_16 (C : xF) (s n : Nat) (z : xS) : x_to q_k114 C s (n + 1) 16 z = x_nx q_k114 C s n ((x_ldi 17 3) C z) := x_to_at f114_16 C s n z
theorem f114_17 : x_fetch q_k114 17 = x_st (x_ifle 174 20) := rfl
theorem t114_17 (C : xF) (s n : Nat) (z : xS) : x_to q_k114 C s (n + 1) 17 z = x_nx q_k114 C s n ((x_st (x_ifle 174 20)) C z) := x_to_at f114_17 C s n z
theorem f114_20 : x_fetch q_k114 20 = x_lda 21 0 := rfl
theorem t114_20 (C : xF) (s n : Nat) (z : xS) : x_to q_k114 C s (n + 1) 20 z = x_nx q_k114 C s n ((x_lda 21 0) C z) := x_to_at f114_20 C s n z
theorem f114_21 : x_fetch q_k114 21 = x_gf 24 8 24 := rfl
theorem t114_21 (C : xF) (s n : Nat) (z : xS) : x_to q_k114 C s (n + 1) 21 z = x_nx q_k114 C s n ((x_gf 24 8 24) C z) := x_to_at f114_21 C s n z
theorem f114_24 : x_fetch q_k114 24 = x_st (x_ifne 174 27) := rfl
theorem t114_24 (C : xF) (s n : Nat) (z : xS) : x_to q_k114 C s (n + 1) 24 z = x_nx q_k114 C s n ((x_st (x_ifne 174 27)) C z) := x_to_at f114_24 C s n z
theorem f114_27 : x_fetch q_k114 27 = x_lda 28 0 := rfl
theorem t114_27 (C : xF) (s n : Nat) (z : xS) : x_to q_k114 C s (n + 1) 27 z = x_nx q_k114 C s n ((x_lda 28 0) C z) := x_to_at f114_27 C s n z
theorem f114_28 : x_fetch q_k114 28 = x_gf 31 8 33 := rfl
theorem t114_28 (C : xF) (s n : Nat) (z : xS) : x_to q_k114 C s (n + 1) 28 z = x_nx q_k114 C s n ((x_gf 31 8 33) C z) := x_to_at f114_28 C s n z
theorem f114_31 : x_fetch q_k114 31 = x_ldi 32 3 := rfl
theorem t114_31 (C : xF) (s n : Nat) (z : xS) : x_to q_k114 C s (n + 1) 31 z = x_nx q_k114 C s n ((x_ldi 32 3) C z) := x_to_at f114_31 C s n z
theorem f114_32 : x_fetch q_k114 32 = x_st (x_push 33 (.int (1))) := rfl
theorem t114_32 (C : xF) (s n : Nat) (z : xS) : x_to q_k114 C s (n + 1) 32 z = x_nx q_k114 C s n ((x_st (x_push 33 (.int (1)))) C z) := x_to_at f114_32 C s n z
theorem f114_33 : x_fetch q_k114 33 = x_st (x_bin 34 (fun a b => a - b)) := rfl
theorem t114_33 (C : xF) (s n : Nat) (z : xS) : x_to q_k114 C s (n + 1) 33 z = x_nx q_k114 C s n ((x_st (x_bin 34 (fun a b => a - b))) C z) := x_to_at f114_33 C s n z
theorem f114_34 : x_fetch q_k114 34 = x_ald 35 0 := rfl
theorem t114_34 (C : xF) (s n : Nat) (z : xS) : x_to q_k114 C s (n + 1) 34 z = x_nx q_k114 C s n ((x_ald 35 0) C z) := x_to_at f114_34 C s n z
theorem f114_35 : x_fetch q_k114 35 = x_sti 37 4 := rfl
theorem t114_35 (C : xF) (s n : Nat) (z : xS) : x_to q_k114 C s (n + 1) 35 z = x_nx q_k114 C s n ((x_sti 37 4) C z) := x_to_at f114_35 C s n z
theorem f114_37 : x_fetch q_k114 37 = x_ldi 39 4 := rfl
theorem t114_37 (C : xF) (s n : Nat) (z : xS) : x_to q_k114 C s (n + 1) 37 z = x_nx q_k114 C s n ((x_ldi 39 4) C z) := x_to_at f114_37 C s n z
theorem f114_39 : x_fetch q_k114 39 = x_lda 40 0 := rfl
theorem t114_39 (C : xF) (s n : Nat) (z : xS) : x_to q_k114 C s (n + 1) 39 z = x_nx q_k114 C s n ((x_lda 40 0) C z) := x_to_at f114_39 C s n z
theorem f114_40 : x_fetch q_k114 40 = x_gf 43 8 34 := rfl
theorem t114_40 (C : xF) (s n : Nat) (z : xS) : x_to q_k114 C s (n + 1) 40 z = x_nx q_k114 C s n ((x_gf 43 8 34) C z) := x_to_at f114_40 C s n z
theorem f114_43 : x_fetch q_k114 43 = x_ldi 44 3 := rfl
theorem t114_43 (C : xF) (s n : Nat) (z : xS) : x_to q_k114 C s (n + 1) 43 z = x_nx q_k114 C s n ((x_ldi 44 3) C z) := x_to_at f114_43 C s n z
theorem f114_44 : x_fetch q_k114 44 = x_st (x_push 45 (.int (1))) := rfl
theorem t114_44 (C : xF) (s n : Nat) (z : xS) : x_to q_k114 C s (n + 1) 44 z = x_nx q_k114 C s n ((x_st (x_push 45 (.int (1)))) C z) := x_to_at f114_44 C s n z
theorem f114_45 : x_fetch q_k114 45 = x_st (x_bin 46 (fun a b => a - b)) := rfl
theorem t114_45 (C : xF) (s n : Nat) (z : xS) : x_to q_k114 C s (n + 1) 45 z = x_nx q_k114 C s n ((x_st (x_bin 46 (fun a b => a - b))) C z) := x_to_at f114_45 C s n z
theorem f114_46 : x_fetch q_k114 46 = x_ald 47 0 := rfl
theorem t114_46 (C : xF) (s n : Nat) (z : xS) : x_to q_k114 C s (n + 1) 46 z = x_nx q_k114 C s n ((x_ald 47 0) C z) := x_to_at f114_46 C s n z
theorem f114_47 : x_fetch q_k114 47 = x_st (x_icne 56 50) := rfl
theorem t114_47 (C : xF) (s n : Nat) (z : xS) : x_to q_k114 C s (n + 1) 47 z = x_nx q_k114 C s n ((x_st (x_icne 56 50)) C z) := x_to_at f114_47 C s n z
theorem f114_50 : x_fetch q_k114 50 = x_iinc 53 3 (-1) := rfl
theorem t114_50 (C : xF) (s n : Nat) (z : xS) : x_to q_k114 C s (n + 1) 50 z = x_nx q_k114 C s n ((x_iinc 53 3 (-1)) C z) := x_to_at f114_50 C s n z
theorem f114_53 : x_fetch q_k114 53 = x_st (x_goto 171) := rfl
theorem t114_53 (C : xF) (s n : Nat) (z : xS) : x_to q_k114 C s (n + 1) 53 z = x_nx q_k114 C s n ((x_st (x_goto 171)) C z) := x_to_at f114_53 C s n z
theorem f114_56 : x_fetch q_k114 56 = x_lda 57 0 := rfl
theorem t114_56 (C : xF) (s n : Nat) (z : xS) : x_to q_k114 C s (n + 1) 56 z = x_nx q_k114 C s n ((x_lda 57 0) C z) := x_to_at f114_56 C s n z
theorem f114_57 : x_fetch q_k114 57 = x_gf 60 8 33 := rfl
theorem t114_57 (C : xF) (s n : Nat) (z : xS) : x_to q_k114 C s (n + 1) 57 z = x_nx q_k114 C s n ((x_gf 60 8 33) C z) := x_to_at f114_57 C s n z
theorem f114_60 : x_fetch q_k114 60 = x_ldi 61 3 := rfl
theorem t114_60 (C : xF) (s n : Nat) (z : xS) : x_to q_k114 C s (n + 1) 60 z = x_nx q_k114 C s n ((x_ldi 61 3) C z) := x_to_at f114_60 C s n z
theorem f114_61 : x_fetch q_k114 61 = x_st (x_push 62 (.int (1))) := rfl
theorem t114_61 (C : xF) (s n : Nat) (z : xS) : x_to q_k114 C s (n + 1) 61 z = x_nx q_k114 C s n ((x_st (x_push 62 (.int (1)))) C z) := x_to_at f114_61 C s n z
theorem f114_62 : x_fetch q_k114 62 = x_st (x_bin 63 (fun a b => a - b)) := rfl
theorem t114_62 (C : xF) (s n : Nat) (z : xS) : x_to q_k114 C s (n + 1) 62 z = x_nx q_k114 C s n ((x_st (x_bin 63 (fun a b => a - b))) C z) := x_to_at f114_62 C s n z
theorem f114_63 : x_fetch q_k114 63 = x_st (x_dup2 64) := rfl
theorem t114_63 (C : xF) (s n : Nat) (z : xS) : x_to q_k114 C s (n + 1) 63 z = x_nx q_k114 C s n ((x_st (x_dup2 64)) C z) := x_to_at f114_63 C s n z
theorem f114_64 : x_fetch q_k114 64 = x_ald 65 0 := rfl
theorem t114_64 (C : xF) (s n : Nat) (z : xS) : x_to q_k114 C s (n + 1) 64 z = x_nx q_k114 C s n ((x_ald 65 0) C z) := x_to_at f114_64 C s n z
theorem f114_65 : x_fetch q_k114 65 = x_st (x_push 66 (.int (1))) := rfl
theorem t114_65 (C : xF) (s n : Nat) (z : xS) : x_to q_k114 C s (n + 1) 65 z = x_nx q_k114 C s n ((x_st (x_push 66 (.int (1)))) C z) := x_to_at f114_65 C s n z
theorem f114_66 : x_fetch q_k114 66 = x_st (x_bin 67 (fun a b => a + b)) := rfl
theorem t114_66 (C : xF) (s n : Nat) (z : xS) : x_to q_k114 C s (n + 1) 66 z = x_nx q_k114 C s n ((x_st (x_bin 67 (fun a b => a + b))) C z) := x_to_at f114_66 C s n z
theorem f114_67 : x_fetch q_k114 67 = x_ast 68 0 (fun x => x) := rfl
theorem t114_67 (C : xF) (s n : Nat) (z : xS) : x_to q_k114 C s (n + 1) 67 z = x_nx q_k114 C s n ((x_ast 68 0 (fun x => x)) C z) := x_to_at f114_67 C s n z
theorem f114_68 : x_fetch q_k114 68 = x_lda 69 0 := rfl
theorem t114_68 (C : xF) (s n : Nat) (z : xS) : x_to q_k114 C s (n + 1) 68 z = x_nx q_k114 C s n ((x_lda 69 0) C z) := x_to_at f114_68 C s n z
theorem f114_69 : x_fetch q_k114 69 = x_gf 72 8 29 := rfl
theorem t114_69 (C : xF) (s n : Nat) (z : xS) : x_to q_k114 C s (n + 1) 69 z = x_nx q_k114 C s n ((x_gf 72 8 29) C z) := x_to_at f114_69 C s n z
theorem f114_72 : x_fetch q_k114 72 = x_ldi 74 4 := rfl
theorem t114_72 (C : xF) (s n : Nat) (z : xS) : x_to q_k114 C s (n + 1) 72 z = x_nx q_k114 C s n ((x_ldi 74 4) C z) := x_to_at f114_72 C s n z
theorem f114_74 : x_fetch q_k114 74 = x_ald 75 0 := rfl
theorem t114_74 (C : xF) (s n : Nat) (z : xS) : x_to q_k114 C s (n + 1) 74 z = x_nx q_k114 C s n ((x_ald 75 0) C z) := x_to_at f114_74 C s n z
theorem f114_75 : x_fetch q_k114 75 = x_sti 77 5 := rfl
theorem t114_75 (C : xF) (s n : Nat) (z : xS) : x_to q_k114 C s (n + 1) 75 z = x_nx q_k114 C s n ((x_sti 77 5) C z) := x_to_at f114_75 C s n z
theorem f114_77 : x_fetch q_k114 77 = x_ldi 79 5 := rfl
theorem t114_77 (C : xF) (s n : Nat) (z : xS) : x_to q_k114 C s (n + 1) 77 z = x_nx q_k114 C s n ((x_ldi 79 5) C z) := x_to_at f114_77 C s n z
theorem f114_79 : x_fetch q_k114 79 = x_st (x_push 81 (.int (99))) := rfl
theorem t114_79 (C : xF) (s n : Nat) (z : xS) : x_to q_k114 C s (n + 1) 79 z = x_nx q_k114 C s n ((x_st (x_push 81 (.int (99)))) C z) := x_to_at f114_79 C s n z
theorem f114_81 : x_fetch q_k114 81 = x_st (x_icge 130 84) := rfl
theorem t114_81 (C : xF) (s n : Nat) (z : xS) : x_to q_k114 C s (n + 1) 81 z = x_nx q_k114 C s n ((x_st (x_icge 130 84)) C z) := x_to_at f114_81 C s n z
theorem f114_84 : x_fetch q_k114 84 = x_lda 85 0 := rfl
theorem t114_84 (C : xF) (s n : Nat) (z : xS) : x_to q_k114 C s (n + 1) 84 z = x_nx q_k114 C s n ((x_lda 85 0) C z) := x_to_at f114_84 C s n z
theorem f114_85 : x_fetch q_k114 85 = x_gf 88 8 30 := rfl
theorem t114_85 (C : xF) (s n : Nat) (z : xS) : x_to q_k114 C s (n + 1) 85 z = x_nx q_k114 C s n ((x_gf 88 8 30) C z) := x_to_at f114_85 C s n z
theorem f114_88 : x_fetch q_k114 88 = x_ldi 90 5 := rfl
theorem t114_88 (C : xF) (s n : Nat) (z : xS) : x_to q_k114 C s (n + 1) 88 z = x_nx q_k114 C s n ((x_ldi 90 5) C z) := x_to_at f114_88 C s n z
theorem f114_90 : x_fetch q_k114 90 = x_ald 91 0 := rfl
theorem t114_90 (C : xF) (s n : Nat) (z : xS) : x_to q_k114 C s (n + 1) 90 z = x_nx q_k114 C s n ((x_ald 91 0) C z) := x_to_at f114_90 C s n z
theorem f114_91 : x_fetch q_k114 91 = x_st (x_iflt 130 94) := rfl
theorem t114_91 (C : xF) (s n : Nat) (z : xS) : x_to q_k114 C s (n + 1) 91 z = x_nx q_k114 C s n ((x_st (x_iflt 130 94)) C z) := x_to_at f114_91 C s n z
theorem f114_94 : x_fetch q_k114 94 = x_lda 95 0 := rfl
theorem t114_94 (C : xF) (s n : Nat) (z : xS) : x_to q_k114 C s (n + 1) 94 z = x_nx q_k114 C s n ((x_lda 95 0) C z) := x_to_at f114_94 C s n z
theorem f114_95 : x_fetch q_k114 95 = x_gf 98 8 33 := rfl
theorem t114_95 (C : xF) (s n : Nat) (z : xS) : x_to q_k114 C s (n + 1) 95 z = x_nx q_k114 C s n ((x_gf 98 8 33) C z) := x_to_at f114_95 C s n z
theorem f114_98 : x_fetch q_k114 98 = x_ldi 99 3 := rfl
theorem t114_98 (C : xF) (s n : Nat) (z : xS) : x_to q_k114 C s (n + 1) 98 z = x_nx q_k114 C s n ((x_ldi 99 3) C z) := x_to_at f114_98 C s n z
theorem f114_99 : x_fetch q_k114 99 = x_lda 100 0 := rfl
theorem t114_99 (C : xF) (s n : Nat) (z : xS) : x_to q_k114 C s (n + 1) 99 z = x_nx q_k114 C s n ((x_lda 100 0) C z) := x_to_at f114_99 C s n z
theorem f114_100 : x_fetch q_k114 100 = x_gf 103 8 30 := rfl
theorem t114_100 (C : xF) (s n : Nat) (z : xS) : x_to q_k114 C s (n + 1) 100 z = x_nx q_k114 C s n ((x_gf 103 8 30) C z) := x_to_at f114_100 C s n z
theorem f114_103 : x_fetch q_k114 103 = x_ldi 105 5 := rfl
theorem t114_103 (C : xF) (s n : Nat) (z : xS) : x_to q_k114 C s (n + 1) 103 z = x_nx q_k114 C s n ((x_ldi 105 5) C z) := x_to_at f114_103 C s n z
theorem f114_105 : x_fetch q_k114 105 = x_ald 106 0 := rfl
theorem t114_105 (C : xF) (s n : Nat) (z : xS) : x_to q_k114 C s (n + 1) 105 z = x_nx q_k114 C s n ((x_ald 106 0) C z) := x_to_at f114_105 C s n z
theorem f114_106 : x_fetch q_k114 106 = x_ast 107 0 (fun x => x) := rfl
theorem t114_106 (C : xF) (s n : Nat) (z : xS) : x_to q_k114 C s (n + 1) 106 z = x_nx q_k114 C s n ((x_ast 107 0 (fun x => x)) C z) := x_to_at f114_106 C s n z
theorem f114_107 : x_fetch q_k114 107 = x_lda 108 0 := rfl
theorem t114_107 (C : xF) (s n : Nat) (z : xS) : x_to q_k114 C s (n + 1) 107 z = x_nx q_k114 C s n ((x_lda 108 0) C z) := x_to_at f114_107 C s n z
theorem f114_108 : x_fetch q_k114 108 = x_gf 111 8 34 := rfl
theorem t114_108 (C : xF) (s n : Nat) (z : xS) : x_to q_k114 C s (n + 1) 108 z = x_nx q_k114 C s n ((x_gf 111 8 34) C z) := x_to_at f114_108 C s n z
theorem f114_111 : x_fetch q_k114 111 = x_ldi 112 3 := rfl
theorem t114_111 (C : xF) (s n : Nat) (z : xS) : x_to q_k114 C s (n + 1) 111 z = x_nx q_k114 C s n ((x_ldi 112 3) C z) := x_to_at f114_111 C s n z
theorem f114_112 : x_fetch q_k114 112 = x_lda 113 0 := rfl
theorem t114_112 (C : xF) (s n : Nat) (z : xS) : x_to q_k114 C s (n + 1) 112 z = x_nx q_k114 C s n ((x_lda 113 0) C z) := x_to_at f114_112 C s n z
theorem f114_113 : x_fetch q_k114 113 = x_lda 114 0 := rfl
theorem t114_113 (C : xF) (s n : Nat) (z : xS) : x_to q_k114 C s (n + 1) 113 z = x_nx q_k114 C s n ((x_lda 114 0) C z) := x_to_at f114_113 C s n z
theorem f114_114 : x_fetch q_k114 114 = x_gf 117 8 30 := rfl
theorem t114_114 (C : xF) (s n : Nat) (z : xS) : x_to q_k114 C s (n + 1) 114 z = x_nx q_k114 C s n ((x_gf 117 8 30) C z) := x_to_at f114_114 C s n z
theorem f114_117 : x_fetch q_k114 117 = x_ldi 119 5 := rfl
theorem t114_117 (C : xF) (s n : Nat) (z : xS) : x_to q_k114 C s (n + 1) 117 z = x_nx q_k114 C s n ((x_ldi 119 5) C z) := x_to_at f114_117 C s n z
theorem f114_119 : x_fetch q_k114 119 = x_ald 120 0 := rfl
theorem t114_119 (C : xF) (s n : Nat) (z : xS) : x_to q_k114 C s (n + 1) 119 z = x_nx q_k114 C s n ((x_ald 120 0) C z) := x_to_at f114_119 C s n z
theorem f114_120 : x_fetch q_k114 120 = x_cv 123 109 2 8 := rfl
theorem t114_120 (C : xF) (s n : Nat) (z : xS) : x_to q_k114 C s (n + 1) 120 z = x_nx q_k114 C s n ((x_cv 123 109 2 8) C z) := x_to_at f114_120 C s n z
theorem f114_123 : x_fetch q_k114 123 = x_ast 124 0 (fun x => x) := rfl
theorem t114_123 (C : xF) (s n : Nat) (z : xS) : x_to q_k114 C s (n + 1) 123 z = x_nx q_k114 C s n ((x_ast 124 0 (fun x => x)) C z) := x_to_at f114_123 C s n z
theorem f114_124 : x_fetch q_k114 124 = x_iinc 127 3 (1) := rfl
theorem t114_124 (C : xF) (s n : Nat) (z : xS) : x_to q_k114 C s (n + 1) 124 z = x_nx q_k114 C s n ((x_iinc 127 3 (1)) C z) := x_to_at f114_124 C s n z
theorem f114_127 : x_fetch q_k114 127 = x_st (x_goto 171) := rfl
theorem t114_127 (C : xF) (s n : Nat) (z : xS) : x_to q_k114 C s (n + 1) 127 z = x_nx q_k114 C s n ((x_st (x_goto 171)) C z) := x_to_at f114_127 C s n z
theorem f114_130 : x_fetch q_k114 130 = x_lda 131 0 := rfl
theorem t114_130 (C : xF) (s n : Nat) (z : xS) : x_to q_k114 C s (n + 1) 130 z = x_nx q_k114 C s n ((x_lda 131 0) C z) := x_to_at f114_130 C s n z
theorem f114_131 : x_fetch q_k114 131 = x_lda 132 0 := rfl
theorem t114_131 (C : xF) (s n : Nat) (z : xS) : x_to q_k114 C s (n + 1) 131 z = x_nx q_k114 C s n ((x_lda 132 0) C z) := x_to_at f114_131 C s n z
theorem f114_132 : x_fetch q_k114 132 = x_gf 135 8 21 := rfl
theorem t114_132 (C : xF) (s n : Nat) (z : xS) : x_to q_k114 C s (n + 1) 132 z = x_nx q_k114 C s n ((x_gf 135 8 21) C z) := x_to_at f114_132 C s n z
theorem f114_135 : x_fetch q_k114 135 = x_lda 136 0 := rfl
theorem t114_135 (C : xF) (s n : Nat) (z : xS) : x_to q_k114 C s (n + 1) 135 z = x_nx q_k114 C s n ((x_lda 136 0) C z) := x_to_at f114_135 C s n z
theorem f114_136 : x_fetch q_k114 136 = x_gf 139 8 18 := rfl
theorem t114_136 (C : xF) (s n : Nat) (z : xS) : x_to q_k114 C s (n + 1) 136 z = x_nx q_k114 C s n ((x_gf 139 8 18) C z) := x_to_at f114_136 C s n z
theorem f114_139 : x_fetch q_k114 139 = x_lda 140 0 := rfl
theorem t114_139 (C : xF) (s n : Nat) (z : xS) : x_to q_k114 C s (n + 1) 139 z = x_nx q_k114 C s n ((x_lda 140 0) C z) := x_to_at f114_139 C s n z
theorem f114_140 : x_fetch q_k114 140 = x_gf 143 8 22 := rfl
theorem t114_140 (C : xF) (s n : Nat) (z : xS) : x_to q_k114 C s (n + 1) 140 z = x_nx q_k114 C s n ((x_gf 143 8 22) C z) := x_to_at f114_140 C s n z
theorem f114_143 : x_fetch q_k114 143 = x_ald 144 0 := rfl
theorem t114_143 (C : xF) (s n : Nat) (z : xS) : x_to q_k114 C s (n + 1) 143 z = x_nx q_k114 C s n ((x_ald 144 0) C z) := x_to_at f114_143 C s n z
theorem f114_144 : x_fetch q_k114 144 = x_st (x_bin 145 (fun a b => a - b)) := rfl
theorem t114_144 (C : xF) (s n : Nat) (z : xS) : x_to q_k114 C s (n + 1) 144 z = x_nx q_k114 C s n ((x_st (x_bin 145 (fun a b => a - b))) C z) := x_to_at f114_144 C s n z
theorem f114_145 : x_fetch q_k114 145 = x_st (x_push 147 (.int (40))) := rfl
theorem t114_145 (C : xF) (s n : Nat) (z : xS) : x_to q_k114 C s (n + 1) 145 z = x_nx q_k114 C s n ((x_st (x_push 147 (.int (40)))) C z) := x_to_at f114_145 C s n z
theorem f114_147 : x_fetch q_k114 147 = x_st (x_iclt 154 150) := rfl
theorem t114_147 (C : xF) (s n : Nat) (z : xS) : x_to q_k114 C s (n + 1) 147 z = x_nx q_k114 C s n ((x_st (x_iclt 154 150)) C z) := x_to_at f114_147 C s n z
theorem f114_150 : x_fetch q_k114 150 = x_st (x_push 151 (.int (1))) := rfl
theorem t114_150 (C : xF) (s n : Nat) (z : xS) : x_to q_k114 C s (n + 1) 150 z = x_nx q_k114 C s n ((x_st (x_push 151 (.int (1)))) C z) := x_to_at f114_150 C s n z
theorem f114_151 : x_fetch q_k114 151 = x_st (x_goto 155) := rfl
theorem t114_151 (C : xF) (s n : Nat) (z : xS) : x_to q_k114 C s (n + 1) 151 z = x_nx q_k114 C s n ((x_st (x_goto 155)) C z) := x_to_at f114_151 C s n z
theorem f114_154 : x_fetch q_k114 154 = x_st (x_push 155 (.int (0))) := rfl
theorem t114_154 (C : xF) (s n : Nat) (z : xS) : x_to q_k114 C s (n + 1) 154 z = x_nx q_k114 C s n ((x_st (x_push 155 (.int (0)))) C z) := x_to_at f114_154 C s n z
theorem f114_155 : x_fetch q_k114 155 = x_pf 158 8 24 (.boolean) := rfl
theorem t114_155 (C : xF) (s n : Nat) (z : xS) : x_to q_k114 C s (n + 1) 155 z = x_nx q_k114 C s n ((x_pf 158 8 24 (.boolean)) C z) := x_to_at f114_155 C s n z
theorem f114_158 : x_fetch q_k114 158 = x_lda 159 0 := rfl
theorem t114_158 (C : xF) (s n : Nat) (z : xS) : x_to q_k114 C s (n + 1) 158 z = x_nx q_k114 C s n ((x_lda 159 0) C z) := x_to_at f114_158 C s n z
theorem f114_159 : x_fetch q_k114 159 = x_gf 162 8 24 := rfl
theorem t114_159 (C : xF) (s n : Nat) (z : xS) : x_to q_k114 C s (n + 1) 159 z = x_nx q_k114 C s n ((x_gf 162 8 24) C z) := x_to_at f114_159 C s n z
theorem f114_162 : x_fetch q_k114 162 = x_st (x_ifne 171 165) := rfl
theorem t114_162 (C : xF) (s n : Nat) (z : xS) : x_to q_k114 C s (n + 1) 162 z = x_nx q_k114 C s n ((x_st (x_ifne 171 165)) C z) := x_to_at f114_162 C s n z
theorem f114_165 : x_fetch q_k114 165 = x_lda 166 0 := rfl
theorem t114_165 (C : xF) (s n : Nat) (z : xS) : x_to q_k114 C s (n + 1) 165 z = x_nx q_k114 C s n ((x_lda 166 0) C z) := x_to_at f114_165 C s n z
theorem f114_166 : x_fetch q_k114 166 = x_ldi 168 5 := rfl
theorem t114_166 (C : xF) (s n : Nat) (z : xS) : x_to q_k114 C s (n + 1) 166 z = x_nx q_k114 C s n ((x_ldi 168 5) C z) := x_to_at f114_166 C s n z
theorem f114_168 : x_fetch q_k114 168 = x_cv 171 98 2 8 := rfl
theorem t114_168 (C : xF) (s n : Nat) (z : xS) : x_to q_k114 C s (n + 1) 168 z = x_nx q_k114 C s n ((x_cv 171 98 2 8) C z) := x_to_at f114_168 C s n z
theorem f114_171 : x_fetch q_k114 171 = x_st (x_goto 16) := rfl
theorem t114_171 (C : xF) (s n : Nat) (z : xS) : x_to q_k114 C s (n + 1) 171 z = x_nx q_k114 C s n ((x_st (x_goto 16)) C z) := x_to_at f114_171 C s n z
theorem f114_174 : x_fetch q_k114 174 = x_rv := rfl
theorem t114_174 (C : xF) (s n : Nat) (z : xS) : x_to q_k114 C s (n + 1) 174 z = x_nx q_k114 C s n ((x_rv) C z) := x_to_at f114_174 C s n z
def wrL : List Int → Int → List Int → List Int
  | R, _, [] => R
  | R, i, x :: l => wrL (sZ R i x) (i + 1) l
theorem wrL_len : ∀ (l R : List Int) (i : Int), (wrL R i l).length = R.length
  | [], _, _ => rfl
  | x :: l, R, i => by
    show (wrL (sZ R i x) (i + 1) l).length = _
    rw [wrL_len l, sZ_len]
theorem nr_z (x : Int) (h : x = 0 ∨ x = 1) : narrow .boolean (.int (iZ x)) = .int (iZ x) := by
  rcases h with rfl | rfl <;> decide
section SP
variable {w : Nat → xC} {N : Nat} {m : Nat → Int} {S Bd Sa : List Int} {ρ : Int → List Int}
def spH (w : Nat → xC) (N : Nat) (m : Nat → Int) (R : List Int) (rw_ g : Int) (St En : List Int) : xH := hp (uH (uH (uH (uH w 27 (.inr (8, mF (st_ (st_ m 7 rw_) 10 g)))) 38 (cI 0 R)) 49 (cI 0 St)) 50 (cI 0 En)) N
set_option maxHeartbeats 8000000 in
theorem l114 (d : Nat) (hN : 53 ≤ N) (hS : w 45 = cI 0 S) (hB : w 46 = cI 0 Bd) (hA : w 39 = cI 0 Sa) (hal : Sa.length = 14) (a0 : 0 ≤ m 8) (a1 : m 8 < 14) (z0 : 0 ≤ gZ Sa (m 8)) (z1 : gZ Sa (m 8) < 500) (hl : S.length < 10000) (hbl : Bd.length = 52) (hr : ∀ i, 0 ≤ gZ S i ∧ gZ S i < 100000) (hv : ∀ i, gZ S i < 99 → gZ S i < 52) (hb : ∀ v, 0 ≤ v → v < 52 → -1 ≤ gZ Bd v ∧ gZ Bd v < S.length) (hbT : ∀ v, 0 ≤ v → v < 52 → 0 ≤ gZ Bd v → Ts 1 (tm S (gZ Bd v).toNat)) (hρ : RB S (bdf Bd) ρ) (hne : ∀ v, ρ v ≠ []) :
    ∀ (n : Nat) (St En V R : List Int) (T rw_ : Int) (lv : xL), St.length = 400 → En.length = 400 → R.length = 600 → gZ Sa (m 8) ≤ rw_ → rw_ - gZ Sa (m 8) ≤ 40 → T = V.length + 1 → FrOK S ρ St En V → 2 * (frT S ρ St En (V.length + 1)).length + V.length + 1 ≤ n → c1 lv → x_lk lv 0 = some (.ref 30) → x_lk lv 3 = some (.int (iZ T)) →
    (rw_ - gZ Sa (m 8) + (er (frT S ρ St En (V.length + 1))).length ≤ 40 → ∃ St' En' : List Int, St'.length = 400 ∧ En'.length = 400 ∧ Gx q_k114 (d + 2) 16 (lv, [], spH w N m R rw_ 0 St En) (none, spH w N m (wrL R rw_ (er (frT S ρ St En (V.length + 1)))) (rw_ + (er (frT S ρ St En (V.length + 1))).length) 0 St' En')) ∧
    (40 < rw_ - gZ Sa (m 8) + (er (frT S ρ St En (V.length + 1))).length → ∃ (St' En' R' : List Int) (rw' : Int), St'.length = 400 ∧ En'.length = 400 ∧ R'.length = 600 ∧ gZ Sa (m 8) ≤ rw' ∧ rw' - gZ Sa (m 8) ≤ 40 ∧ Gx q_k114 (d + 2) 16 (lv, [], spH w N m R rw_ 0 St En) (none, spH w N m R' rw' 1 St' En')) := by
  intro n
  induction n with
  | zero => intro St En V R T rw_ lv _ _ _ _ _ _ _ hn; omega
  | succ n ih =>
    intro St En V R T rw_ lv hs1 hs2 hs3 w0 w1 hT hF hn hc l0 l3
    have hV := FrOK_len hF
    have hF1 := FrOK_top hF
    have eT : T - 1 = (V.length : Int) := by omega
    obtain ⟨f1, f2, f3⟩ := hF1
    have b0 : ¬ T ≤ 0 := by omega
    by_cases hq : gZ St (T - 1) = gZ En (T - 1)
    · -- the row is done
      have hp0 : frT S ρ St En (V.length + 1) = frT S ρ St En V.length := frT_pop (by rw [← eT]; exact hq)
      rw [hp0]
      cases V with
      | nil =>
        have e : er (frT S ρ St En ([] : List Int).length) = [] := rfl
        rw [e]
        refine ⟨fun _ => ⟨St, En, hs1, hs2, ?_⟩, fun h9 => absurd h9 (by simp only [List.length_nil]; omega)⟩
        have hT1 : T = 1 := by simpa using hT
        subst hT1
        refine Gx.fin 60 Cs.tt (fun C _ => ?_)
        have q0 : gZ St 0 = gZ En 0 := hq
        simp (disch := first | (refine c1_id ?_; assumption) | (refine c1_st rfl ?_; first | assumption | (refine c1_st rfl ?_; first | assumption | (refine c1_st rfl ?_; first | assumption | (refine c1_st rfl ?_; assumption)))) | omega) [nx_l, nx_r, nx_n, x_st, x_push, x_bin, x_div, x_un, x_dup, x_pop, x_dup2, x_goto, x_ifeq, x_ifne, x_iflt, x_ifge, x_ifgt, x_ifle, x_iceq, x_icne, x_iclt, x_icge, x_icgt, x_icle, x_ifnull, x_ifnonnull, x_ldi, x_lda, x_sti, x_sta, x_iinc, x_gf, x_pf, x_ald, x_ast, x_aln, x_len, x_cl_, x_cv, x_cs, x_rc, x_r0, x_isT, x_oi, x_rv, x_ri, x_ra, Value.category, t114_0, t114_1, t114_2, t114_3, t114_6, t114_7, t114_8, t114_9, t114_10, t114_13, t114_14, t114_15, t114_16, t114_17, t114_20, t114_21, t114_24, t114_27, t114_28, t114_31, t114_32, t114_33, t114_34, t114_35, t114_37, t114_39, t114_40, t114_43, t114_44, t114_45, t114_46, t114_47, t114_50, t114_53, t114_56, t114_57, t114_60, t114_61, t114_62, t114_63, t114_64, t114_65, t114_66, t114_67, t114_68, t114_69, t114_72, t114_74, t114_75, t114_77, t114_79, t114_81, t114_84, t114_85, t114_88, t114_90, t114_91, t114_94, t114_95, t114_98, t114_99, t114_100, t114_103, t114_105, t114_106, t114_107, t114_108, t114_111, t114_112, t114_113, t114_114, t114_117, t114_119, t114_120, t114_123, t114_124, t114_127, t114_130, t114_131, t114_132, t114_135, t114_136, t114_139, t114_140, t114_143, t114_144, t114_145, t114_147, t114_150, t114_151, t114_154, t114_155, t114_158, t114_159, t114_162, t114_165, t114_166, t114_168, t114_171, t114_174, lk_s, hp_get, hp_set, uH_at, uH_ne, uH_upd, uH_swap, iZ_add, iZ_sub, iZ_mul, iZ_neg, iZ_lt, iZ_le, iZ_eq, iZ_div, iZ_of, ix_Z, gZ_map, gZ_mapI, gZ_map', le_0, le_s, sZ_map, sZ_len, bZ_0, bZ_inj, bZ_t, bZ_f, nr_i, nr_0, nr_1, nr_b, ft_i, ft_b, ft_0, ft_1, zl_0, zl_1, zl_40, zl_99, mF_len, mg_0, mg_1, mg_2, mg_3, mg_4, mg_5, mg_6, mg_7, mg_8, mg_9, mg_10, mg_11, mg_12, mg_13, mg_14, mg_15, mg_16, mg_17, mg_18, mg_19, mg_20, mg_21, mg_22, mg_23, mg_24, mg_25, mg_26, mg_27, mg_28, mg_29, mg_30, mg_31, mg_32, mg_33, mg_34, mg_35, mg_36, mg_37, mg_38, ms_0, ms_1, ms_2, ms_13, ms_14, ms_15, ms_16, ms_21, ms_22, ms_23, ms_24, ms_28, ms_36, ms_37, ms_38, st_at, st_ne, st_st, st_swap, spH, l0, l3, q0, wrL, -List.filter_filter, -List.getElem?_map, -List.getD_eq_getElem?_getD]
      | cons u V =>
        have k := ih St En V R (T - 1) rw_ ((3, .int (iZ (T - 1))) :: List.filter (x_keep 3) ((4, .int (iZ (gZ St (T - 1)))) :: List.filter (x_keep 4) lv)) hs1 hs2 hs3 w0 w1 (by rw [eT]; simp) hF.2.2.2.2 (by rw [hp0] at hn; simp only [List.length_cons] at hn; omega) (c1_st rfl (c1_st rfl hc)) (by rw [lk_s (c1_st rfl hc), lk_s hc]; exact l0) (by rw [lk_s (c1_st rfl hc)]; rfl)
        have b3 : -1 + T = T - 1 := by omega
        have b4 : T + -1 = T - 1 := by omega
        have step : ∀ res, Gx q_k114 (d + 2) 16 ((3, .int (iZ (T - 1))) :: List.filter (x_keep 3) ((4, .int (iZ (gZ St (T - 1)))) :: List.filter (x_keep 4) lv), [], spH w N m R rw_ 0 St En) res → Gx q_k114 (d + 2) 16 (lv, [], spH w N m R rw_ 0 St En) res := fun res k3 => by
          refine Gx.run 60 Cs.tt (fun C _ => ?_) k3
          simp (disch := first | (refine c1_id ?_; assumption) | (refine c1_st rfl ?_; first | assumption | (refine c1_st rfl ?_; first | assumption | (refine c1_st rfl ?_; first | assumption | (refine c1_st rfl ?_; assumption)))) | omega) [nx_l, nx_r, nx_n, x_st, x_push, x_bin, x_div, x_un, x_dup, x_pop, x_dup2, x_goto, x_ifeq, x_ifne, x_iflt, x_ifge, x_ifgt, x_ifle, x_iceq, x_icne, x_iclt, x_icge, x_icgt, x_icle, x_ifnull, x_ifnonnull, x_ldi, x_lda, x_sti, x_sta, x_iinc, x_gf, x_pf, x_ald, x_ast, x_aln, x_len, x_cl_, x_cv, x_cs, x_rc, x_r0, x_isT, x_oi, x_rv, x_ri, x_ra, Value.category, t114_0, t114_1, t114_2, t114_3, t114_6, t114_7, t114_8, t114_9, t114_10, t114_13, t114_14, t114_15, t114_16, t114_17, t114_20, t114_21, t114_24, t114_27, t114_28, t114_31, t114_32, t114_33, t114_34, t114_35, t114_37, t114_39, t114_40, t114_43, t114_44, t114_45, t114_46, t114_47, t114_50, t114_53, t114_56, t114_57, t114_60, t114_61, t114_62, t114_63, t114_64, t114_65, t114_66, t114_67, t114_68, t114_69, t114_72, t114_74, t114_75, t114_77, t114_79, t114_81, t114_84, t114_85, t114_88, t114_90, t114_91, t114_94, t114_95, t114_98, t114_99, t114_100, t114_103, t114_105, t114_106, t114_107, t114_108, t114_111, t114_112, t114_113, t114_114, t114_117, t114_119, t114_120, t114_123, t114_124, t114_127, t114_130, t114_131, t114_132, t114_135, t114_136, t114_139, t114_140, t114_143, t114_144, t114_145, t114_147, t114_150, t114_151, t114_154, t114_155, t114_158, t114_159, t114_162, t114_165, t114_166, t114_168, t114_171, t114_174, lk_s, hp_get, hp_set, uH_at, uH_ne, uH_upd, uH_swap, iZ_add, iZ_sub, iZ_mul, iZ_neg, iZ_lt, iZ_le, iZ_eq, iZ_div, iZ_of, ix_Z, gZ_map, gZ_mapI, gZ_map', le_0, le_s, sZ_map, sZ_len, bZ_0, bZ_inj, bZ_t, bZ_f, nr_i, nr_0, nr_1, nr_b, ft_i, ft_b, ft_0, ft_1, zl_0, zl_1, zl_40, zl_99, mF_len, mg_0, mg_1, mg_2, mg_3, mg_4, mg_5, mg_6, mg_7, mg_8, mg_9, mg_10, mg_11, mg_12, mg_13, mg_14, mg_15, mg_16, mg_17, mg_18, mg_19, mg_20, mg_21, mg_22, mg_23, mg_24, mg_25, mg_26, mg_27, mg_28, mg_29, mg_30, mg_31, mg_32, mg_33, mg_34, mg_35, mg_36, mg_37, mg_38, ms_0, ms_1, ms_2, ms_13, ms_14, ms_15, ms_16, ms_21, ms_22, ms_23, ms_24, ms_28, ms_36, ms_37, ms_38, st_at, st_ne, st_st, st_swap, spH, l0, l3, hq, b0, b3, b4, -List.filter_filter, -List.getElem?_map, -List.getD_eq_getElem?_getD]
        refine ⟨fun h9 => ?_, fun h9 => ?_⟩
        · obtain ⟨St', En', k1, k2, k3⟩ := k.1 h9
          exact ⟨St', En', k1, k2, step _ k3⟩
        · obtain ⟨St', En', R', r', k1, k2, k3, k4, k5, k6⟩ := k.2 h9
          exact ⟨St', En', R', r', k1, k2, k3, k4, k5, step _ k6⟩
    · have q1 : gZ St V.length < gZ En V.length := by
        rw [eT] at hq
        omega
      have q2 : gZ St (T - 1) < S.length := by
        rw [eT]
        omega
      have q3 : 0 ≤ gZ St (T - 1) := by
        rw [eT]
        exact f1
      have hon := frT_on (P := S) (ρ := ρ) (St := St) (En := En) (t := V.length) (by omega) f1 q1 (by omega)
      have hF2 := FrOK_on hne hF hs1 (by omega)
      have hless := FrOK_less hF q1
      rw [← eT] at hon hF2 hless f1 f2 f3 q1
      have g1 := hr (gZ St (T - 1))
      have g9 : gZ En (T - 1) < 100000 := by omega
      by_cases hbd : gZ S (gZ St (T - 1)) < 99 ∧ 0 ≤ gZ Bd (gZ S (gZ St (T - 1)))
      · -- a bound variable
        have s52 := hv _ hbd.1
        have gb := hb _ g1.1 s52
        have gT := hbT _ g1.1 s52 hbd.2
        have hρs : ρ (gZ S (gZ St (T - 1))) = mk_ :: sub ρ (tm S (gZ Bd (gZ S (gZ St (T - 1)))).toNat) := by
          have := (hρ _ hbd.1).2 (by rw [bdf_in g1.1 s52]; exact hbd.2)
          rw [bdf_in g1.1 s52] at this
          exact this
        have hl1 : (sZ St (T - 1) (gZ St (T - 1) + 1)).length = 400 := by rw [sZ_len]; exact hs1
        have hF3 := FrOK_push hF2 hl1 hs2 hbd.2 gb.2 ⟨g1.1, s52⟩ hρs (hless hbd.1)
        have hpu := frT_push (P := S) (ρ := ρ) (St := sZ St (T - 1) (gZ St (T - 1) + 1)) (En := En) (t := V.length) hbd.2 (by omega) (by omega)
        have eT1 : ((V.length + 1 : Nat) : Int) = T := by omega
        rw [eT1] at hF3 hpu
        have etr : frT S ρ St En (V.length + 1) = mk_ :: frT S ρ (sZ (sZ St (T - 1) (gZ St (T - 1) + 1)) T (gZ Bd (gZ S (gZ St (T - 1))))) (sZ En T (gZ Bd (gZ S (gZ St (T - 1))) + (tm S (gZ Bd (gZ S (gZ St (T - 1)))).toNat).length)) ((gZ S (gZ St (T - 1)) :: V).length + 1) := by
          rw [hon, if_pos hbd.1, hρs, List.length_cons, hpu]
          rfl
        have mm := m109 d (w := uH (uH (uH (uH w 27 (.inr (8, mF (st_ (st_ m 7 rw_) 10 0)))) 38 (cI 0 R)) 49 (cI 0 (sZ (sZ St (T - 1) (gZ St (T - 1) + 1)) T (gZ Bd (gZ S (gZ St (T - 1))))))) 50 (cI 0 En)) (m := st_ (st_ m 7 rw_) 10 0) (S := S) (N := N) hN (by rw [uH_ne (by omega), uH_ne (by omega), uH_ne (by omega), uH_at]) (by rw [uH_ne (by omega), uH_ne (by omega), uH_ne (by omega), uH_ne (by omega)]; exact hS) hl hr (gZ Bd (gZ S (gZ St (T - 1)))) hbd.2 gT
        have k := ih (sZ (sZ St (T - 1) (gZ St (T - 1) + 1)) T (gZ Bd (gZ S (gZ St (T - 1))))) (sZ En T (gZ Bd (gZ S (gZ St (T - 1))) + (tm S (gZ Bd (gZ S (gZ St (T - 1)))).toNat).length)) (gZ S (gZ St (T - 1)) :: V) R (T + 1) rw_ ((3, .int (iZ (T + 1))) :: List.filter (x_keep 3) ((5, .int (iZ (gZ S (gZ St (T - 1))))) :: List.filter (x_keep 5) ((4, .int (iZ (gZ St (T - 1)))) :: List.filter (x_keep 4) lv))) (by rw [sZ_len]; exact hl1) (by rw [sZ_len]; exact hs2) hs3 w0 w1 (by simp only [List.length_cons]; omega) hF3 (by rw [etr, List.length_cons] at hn; simp only [List.length_cons] at hn ⊢; omega) (c1_st rfl (c1_st rfl (c1_st rfl hc))) (by rw [lk_s (c1_st rfl (c1_st rfl hc)), lk_s (c1_st rfl hc), lk_s hc]; exact l0) (by rw [lk_s (c1_st rfl (c1_st rfl hc))]; rfl)
        rw [etr, er_mk]
        have step : ∀ res, Gx q_k114 (d + 2) 16 ((3, .int (iZ (T + 1))) :: List.filter (x_keep 3) ((5, .int (iZ (gZ S (gZ St (T - 1))))) :: List.filter (x_keep 5) ((4, .int (iZ (gZ St (T - 1)))) :: List.filter (x_keep 4) lv)), [], spH w N m R rw_ 0 (sZ (sZ St (T - 1) (gZ St (T - 1) + 1)) T (gZ Bd (gZ S (gZ St (T - 1))))) (sZ En T (gZ Bd (gZ S (gZ St (T - 1))) + (tm S (gZ Bd (gZ S (gZ St (T - 1)))).toNat).length))) res → Gx q_k114 (d + 2) 16 (lv, [], spH w N m R rw_ 0 St En) res := fun res k3 => by
          refine Gx.run 100 mm (fun C mm => ?_) k3
          have b2 : ¬ 99 ≤ gZ S (gZ St (T - 1)) := by omega
          have b3 : ¬ gZ Bd (gZ S (gZ St (T - 1))) < 0 := by omega
          simp (disch := first | (refine c1_id ?_; assumption) | (refine c1_st rfl ?_; first | assumption | (refine c1_st rfl ?_; first | assumption | (refine c1_st rfl ?_; first | assumption | (refine c1_st rfl ?_; assumption)))) | omega) [nx_l, nx_r, nx_n, x_st, x_push, x_bin, x_div, x_un, x_dup, x_pop, x_dup2, x_goto, x_ifeq, x_ifne, x_iflt, x_ifge, x_ifgt, x_ifle, x_iceq, x_icne, x_iclt, x_icge, x_icgt, x_icle, x_ifnull, x_ifnonnull, x_ldi, x_lda, x_sti, x_sta, x_iinc, x_gf, x_pf, x_ald, x_ast, x_aln, x_len, x_cl_, x_cv, x_cs, x_rc, x_r0, x_isT, x_oi, x_rv, x_ri, x_ra, Value.category, t114_0, t114_1, t114_2, t114_3, t114_6, t114_7, t114_8, t114_9, t114_10, t114_13, t114_14, t114_15, t114_16, t114_17, t114_20, t114_21, t114_24, t114_27, t114_28, t114_31, t114_32, t114_33, t114_34, t114_35, t114_37, t114_39, t114_40, t114_43, t114_44, t114_45, t114_46, t114_47, t114_50, t114_53, t114_56, t114_57, t114_60, t114_61, t114_62, t114_63, t114_64, t114_65, t114_66, t114_67, t114_68, t114_69, t114_72, t114_74, t114_75, t114_77, t114_79, t114_81, t114_84, t114_85, t114_88, t114_90, t114_91, t114_94, t114_95, t114_98, t114_99, t114_100, t114_103, t114_105, t114_106, t114_107, t114_108, t114_111, t114_112, t114_113, t114_114, t114_117, t114_119, t114_120, t114_123, t114_124, t114_127, t114_130, t114_131, t114_132, t114_135, t114_136, t114_139, t114_140, t114_143, t114_144, t114_145, t114_147, t114_150, t114_151, t114_154, t114_155, t114_158, t114_159, t114_162, t114_165, t114_166, t114_168, t114_171, t114_174, lk_s, hp_get, hp_set, uH_at, uH_ne, uH_upd, uH_swap, iZ_add, iZ_sub, iZ_mul, iZ_neg, iZ_lt, iZ_le, iZ_eq, iZ_div, iZ_of, ix_Z, gZ_map, gZ_mapI, gZ_map', le_0, le_s, sZ_map, sZ_len, bZ_0, bZ_inj, bZ_t, bZ_f, nr_i, nr_0, nr_1, nr_b, ft_i, ft_b, ft_0, ft_1, zl_0, zl_1, zl_40, zl_99, mF_len, mg_0, mg_1, mg_2, mg_3, mg_4, mg_5, mg_6, mg_7, mg_8, mg_9, mg_10, mg_11, mg_12, mg_13, mg_14, mg_15, mg_16, mg_17, mg_18, mg_19, mg_20, mg_21, mg_22, mg_23, mg_24, mg_25, mg_26, mg_27, mg_28, mg_29, mg_30, mg_31, mg_32, mg_33, mg_34, mg_35, mg_36, mg_37, mg_38, ms_0, ms_1, ms_2, ms_13, ms_14, ms_15, ms_16, ms_21, ms_22, ms_23, ms_24, ms_28, ms_36, ms_37, ms_38, st_at, st_ne, st_st, st_swap, spH, l0, l3, hS, hB, hq, b0, b2, b3, mm, -List.filter_filter, -List.getElem?_map, -List.getD_eq_getElem?_getD]
        refine ⟨fun h9 => ?_, fun h9 => ?_⟩
        · obtain ⟨St', En', k1, k2, k3⟩ := k.1 h9
          exact ⟨St', En', k1, k2, step _ k3⟩
        · obtain ⟨St', En', R', r', k1, k2, k3, k4, k5, k6⟩ := k.2 h9
          exact ⟨St', En', R', r', k1, k2, k3, k4, k5, step _ k6⟩
      · -- a sign that is put
        have etr : frT S ρ St En (V.length + 1) = gZ S (gZ St (T - 1)) :: frT S ρ (sZ St (T - 1) (gZ St (T - 1) + 1)) En (V.length + 1) := by
          rw [hon]
          by_cases h9 : gZ S (gZ St (T - 1)) < 99
          · have s52 := hv _ h9
            have gb : gZ Bd (gZ S (gZ St (T - 1))) < 0 := by omega
            rw [if_pos h9, (hρ _ h9).1 (by rw [bdf_in g1.1 s52]; exact gb)]
            rfl
          · rw [if_neg h9]
            rfl
        have hse : er (frT S ρ St En (V.length + 1)) = gZ S (gZ St (T - 1)) :: er (frT S ρ (sZ St (T - 1) (gZ St (T - 1) + 1)) En (V.length + 1)) := by
          rw [etr]
          exact er_ne (by unfold mk_; omega)
        rw [hse]
        have go130 : ∀ res, Gx q_k114 (d + 2) 130 ((5, .int (iZ (gZ S (gZ St (T - 1))))) :: List.filter (x_keep 5) ((4, .int (iZ (gZ St (T - 1)))) :: List.filter (x_keep 4) lv), [], spH w N m R rw_ 0 (sZ St (T - 1) (gZ St (T - 1) + 1)) En) res → Gx q_k114 (d + 2) 16 (lv, [], spH w N m R rw_ 0 St En) res := fun res k3 => by
          refine Gx.run 100 Cs.tt (fun C _ => ?_) k3
          by_cases h9 : 99 ≤ gZ S (gZ St (T - 1))
          · simp (disch := first | (refine c1_id ?_; assumption) | (refine c1_st rfl ?_; first | assumption | (refine c1_st rfl ?_; first | assumption | (refine c1_st rfl ?_; first | assumption | (refine c1_st rfl ?_; assumption)))) | omega) [nx_l, nx_r, nx_n, x_st, x_push, x_bin, x_div, x_un, x_dup, x_pop, x_dup2, x_goto, x_ifeq, x_ifne, x_iflt, x_ifge, x_ifgt, x_ifle, x_iceq, x_icne, x_iclt, x_icge, x_icgt, x_icle, x_ifnull, x_ifnonnull, x_ldi, x_lda, x_sti, x_sta, x_iinc, x_gf, x_pf, x_ald, x_ast, x_aln, x_len, x_cl_, x_cv, x_cs, x_rc, x_r0, x_isT, x_oi, x_rv, x_ri, x_ra, Value.category, t114_0, t114_1, t114_2, t114_3, t114_6, t114_7, t114_8, t114_9, t114_10, t114_13, t114_14, t114_15, t114_16, t114_17, t114_20, t114_21, t114_24, t114_27, t114_28, t114_31, t114_32, t114_33, t114_34, t114_35, t114_37, t114_39, t114_40, t114_43, t114_44, t114_45, t114_46, t114_47, t114_50, t114_53, t114_56, t114_57, t114_60, t114_61, t114_62, t114_63, t114_64, t114_65, t114_66, t114_67, t114_68, t114_69, t114_72, t114_74, t114_75, t114_77, t114_79, t114_81, t114_84, t114_85, t114_88, t114_90, t114_91, t114_94, t114_95, t114_98, t114_99, t114_100, t114_103, t114_105, t114_106, t114_107, t114_108, t114_111, t114_112, t114_113, t114_114, t114_117, t114_119, t114_120, t114_123, t114_124, t114_127, t114_130, t114_131, t114_132, t114_135, t114_136, t114_139, t114_140, t114_143, t114_144, t114_145, t114_147, t114_150, t114_151, t114_154, t114_155, t114_158, t114_159, t114_162, t114_165, t114_166, t114_168, t114_171, t114_174, lk_s, hp_get, hp_set, uH_at, uH_ne, uH_upd, uH_swap, iZ_add, iZ_sub, iZ_mul, iZ_neg, iZ_lt, iZ_le, iZ_eq, iZ_div, iZ_of, ix_Z, gZ_map, gZ_mapI, gZ_map', le_0, le_s, sZ_map, sZ_len, bZ_0, bZ_inj, bZ_t, bZ_f, nr_i, nr_0, nr_1, nr_b, ft_i, ft_b, ft_0, ft_1, zl_0, zl_1, zl_40, zl_99, mF_len, mg_0, mg_1, mg_2, mg_3, mg_4, mg_5, mg_6, mg_7, mg_8, mg_9, mg_10, mg_11, mg_12, mg_13, mg_14, mg_15, mg_16, mg_17, mg_18, mg_19, mg_20, mg_21, mg_22, mg_23, mg_24, mg_25, mg_26, mg_27, mg_28, mg_29, mg_30, mg_31, mg_32, mg_33, mg_34, mg_35, mg_36, mg_37, mg_38, ms_0, ms_1, ms_2, ms_13, ms_14, ms_15, ms_16, ms_21, ms_22, ms_23, ms_24, ms_28, ms_36, ms_37, ms_38, st_at, st_ne, st_st, st_swap, spH, l0, l3, hS, hB, hq, b0, h9, -List.filter_filter, -List.getElem?_map, -List.getD_eq_getElem?_getD]
          · have s52 := hv (gZ St (T - 1)) (by omega)
            have gb := hb _ g1.1 s52
            have b3 : gZ Bd (gZ S (gZ St (T - 1))) < 0 := by omega
            simp (disch := first | (refine c1_id ?_; assumption) | (refine c1_st rfl ?_; first | assumption | (refine c1_st rfl ?_; first | assumption | (refine c1_st rfl ?_; first | assumption | (refine c1_st rfl ?_; assumption)))) | omega) [nx_l, nx_r, nx_n, x_st, x_push, x_bin, x_div, x_un, x_dup, x_pop, x_dup2, x_goto, x_ifeq, x_ifne, x_iflt, x_ifge, x_ifgt, x_ifle, x_iceq, x_icne, x_iclt, x_icge, x_icgt, x_icle, x_ifnull, x_ifnonnull, x_ldi, x_lda, x_sti, x_sta, x_iinc, x_gf, x_pf, x_ald, x_ast, x_aln, x_len, x_cl_, x_cv, x_cs, x_rc, x_r0, x_isT, x_oi, x_rv, x_ri, x_ra, Value.category, t114_0, t114_1, t114_2, t114_3, t114_6, t114_7, t114_8, t114_9, t114_10, t114_13, t114_14, t114_15, t114_16, t114_17, t114_20, t114_21, t114_24, t114_27, t114_28, t114_31, t114_32, t114_33, t114_34, t114_35, t114_37, t114_39, t114_40, t114_43, t114_44, t114_45, t114_46, t114_47, t114_50, t114_53, t114_56, t114_57, t114_60, t114_61, t114_62, t114_63, t114_64, t114_65, t114_66, t114_67, t114_68, t114_69, t114_72, t114_74, t114_75, t114_77, t114_79, t114_81, t114_84, t114_85, t114_88, t114_90, t114_91, t114_94, t114_95, t114_98, t114_99, t114_100, t114_103, t114_105, t114_106, t114_107, t114_108, t114_111, t114_112, t114_113, t114_114, t114_117, t114_119, t114_120, t114_123, t114_124, t114_127, t114_130, t114_131, t114_132, t114_135, t114_136, t114_139, t114_140, t114_143, t114_144, t114_145, t114_147, t114_150, t114_151, t114_154, t114_155, t114_158, t114_159, t114_162, t114_165, t114_166, t114_168, t114_171, t114_174, lk_s, hp_get, hp_set, uH_at, uH_ne, uH_upd, uH_swap, iZ_add, iZ_sub, iZ_mul, iZ_neg, iZ_lt, iZ_le, iZ_eq, iZ_div, iZ_of, ix_Z, gZ_map, gZ_mapI, gZ_map', le_0, le_s, sZ_map, sZ_len, bZ_0, bZ_inj, bZ_t, bZ_f, nr_i, nr_0, nr_1, nr_b, ft_i, ft_b, ft_0, ft_1, zl_0, zl_1, zl_40, zl_99, mF_len, mg_0, mg_1, mg_2, mg_3, mg_4, mg_5, mg_6, mg_7, mg_8, mg_9, mg_10, mg_11, mg_12, mg_13, mg_14, mg_15, mg_16, mg_17, mg_18, mg_19, mg_20, mg_21, mg_22, mg_23, mg_24, mg_25, mg_26, mg_27, mg_28, mg_29, mg_30, mg_31, mg_32, mg_33, mg_34, mg_35, mg_36, mg_37, mg_38, ms_0, ms_1, ms_2, ms_13, ms_14, ms_15, ms_16, ms_21, ms_22, ms_23, ms_24, ms_28, ms_36, ms_37, ms_38, st_at, st_ne, st_st, st_swap, spH, l0, l3, hS, hB, hq, b0, h9, b3, -List.filter_filter, -List.getElem?_map, -List.getD_eq_getElem?_getD]
        by_cases hg : rw_ - gZ Sa (m 8) < 40
        · have mm := m98 (d + 1) (w := uH (uH (uH (uH w 27 (.inr (8, mF (st_ (st_ m 7 rw_) 10 0)))) 38 (cI 0 R)) 49 (cI 0 (sZ St (T - 1) (gZ St (T - 1) + 1)))) 50 (cI 0 En)) (m := st_ (st_ m 7 rw_) 10 0) (R := R) (N := N) hN (by rw [uH_ne (by omega), uH_ne (by omega), uH_ne (by omega), uH_at]) (by rw [uH_ne (by omega), uH_ne (by omega), uH_at]) hs3 (by rw [st_ne (by omega), st_at]; omega) (by rw [st_ne (by omega), st_at]; omega) (gZ S (gZ St (T - 1)))
          have k := ih (sZ St (T - 1) (gZ St (T - 1) + 1)) En V (sZ R rw_ (gZ S (gZ St (T - 1)))) T (rw_ + 1) ((5, .int (iZ (gZ S (gZ St (T - 1))))) :: List.filter (x_keep 5) ((4, .int (iZ (gZ St (T - 1)))) :: List.filter (x_keep 4) lv)) (by rw [sZ_len]; exact hs1) hs2 (by rw [sZ_len]; exact hs3) (by omega) (by omega) hT hF2 (by rw [etr] at hn; simp only [List.length_cons] at hn; omega) (c1_st rfl (c1_st rfl hc)) (by rw [lk_s (c1_st rfl hc), lk_s hc]; exact l0) (by rw [lk_s (c1_st rfl hc), lk_s hc]; exact l3)
          have step : ∀ res, Gx q_k114 (d + 2) 16 ((5, .int (iZ (gZ S (gZ St (T - 1))))) :: List.filter (x_keep 5) ((4, .int (iZ (gZ St (T - 1)))) :: List.filter (x_keep 4) lv), [], spH w N m (sZ R rw_ (gZ S (gZ St (T - 1)))) (rw_ + 1) 0 (sZ St (T - 1) (gZ St (T - 1) + 1)) En) res → Gx q_k114 (d + 2) 16 (lv, [], spH w N m R rw_ 0 St En) res := fun res k3 => by
            refine go130 res (Gx.run 100 mm (fun C mm => ?_) k3)
            simp (disch := first | (refine c1_id ?_; assumption) | (refine c1_st rfl ?_; first | assumption | (refine c1_st rfl ?_; first | assumption | (refine c1_st rfl ?_; first | assumption | (refine c1_st rfl ?_; assumption)))) | omega) [nx_l, nx_r, nx_n, x_st, x_push, x_bin, x_div, x_un, x_dup, x_pop, x_dup2, x_goto, x_ifeq, x_ifne, x_iflt, x_ifge, x_ifgt, x_ifle, x_iceq, x_icne, x_iclt, x_icge, x_icgt, x_icle, x_ifnull, x_ifnonnull, x_ldi, x_lda, x_sti, x_sta, x_iinc, x_gf, x_pf, x_ald, x_ast, x_aln, x_len, x_cl_, x_cv, x_cs, x_rc, x_r0, x_isT, x_oi, x_rv, x_ri, x_ra, Value.category, t114_0, t114_1, t114_2, t114_3, t114_6, t114_7, t114_8, t114_9, t114_10, t114_13, t114_14, t114_15, t114_16, t114_17, t114_20, t114_21, t114_24, t114_27, t114_28, t114_31, t114_32, t114_33, t114_34, t114_35, t114_37, t114_39, t114_40, t114_43, t114_44, t114_45, t114_46, t114_47, t114_50, t114_53, t114_56, t114_57, t114_60, t114_61, t114_62, t114_63, t114_64, t114_65, t114_66, t114_67, t114_68, t114_69, t114_72, t114_74, t114_75, t114_77, t114_79, t114_81, t114_84, t114_85, t114_88, t114_90, t114_91, t114_94, t114_95, t114_98, t114_99, t114_100, t114_103, t114_105, t114_106, t114_107, t114_108, t114_111, t114_112, t114_113, t114_114, t114_117, t114_119, t114_120, t114_123, t114_124, t114_127, t114_130, t114_131, t114_132, t114_135, t114_136, t114_139, t114_140, t114_143, t114_144, t114_145, t114_147, t114_150, t114_151, t114_154, t114_155, t114_158, t114_159, t114_162, t114_165, t114_166, t114_168, t114_171, t114_174, lk_s, hp_get, hp_set, uH_at, uH_ne, uH_upd, uH_swap, iZ_add, iZ_sub, iZ_mul, iZ_neg, iZ_lt, iZ_le, iZ_eq, iZ_div, iZ_of, ix_Z, gZ_map, gZ_mapI, gZ_map', le_0, le_s, sZ_map, sZ_len, bZ_0, bZ_inj, bZ_t, bZ_f, nr_i, nr_0, nr_1, nr_b, ft_i, ft_b, ft_0, ft_1, zl_0, zl_1, zl_40, zl_99, mF_len, mg_0, mg_1, mg_2, mg_3, mg_4, mg_5, mg_6, mg_7, mg_8, mg_9, mg_10, mg_11, mg_12, mg_13, mg_14, mg_15, mg_16, mg_17, mg_18, mg_19, mg_20, mg_21, mg_22, mg_23, mg_24, mg_25, mg_26, mg_27, mg_28, mg_29, mg_30, mg_31, mg_32, mg_33, mg_34, mg_35, mg_36, mg_37, mg_38, ms_0, ms_1, ms_2, ms_13, ms_14, ms_15, ms_16, ms_21, ms_22, ms_23, ms_24, ms_28, ms_36, ms_37, ms_38, st_at, st_ne, st_st, st_swap, spH, l0, l3, hA, hg, mm, -List.filter_filter, -List.getElem?_map, -List.getD_eq_getElem?_getD]
          refine ⟨fun h9 => ?_, fun h9 => ?_⟩
          · obtain ⟨St', En', k1, k2, k3⟩ := k.1 (by rw [List.length_cons] at h9; omega)
            refine ⟨St', En', k1, k2, ?_⟩
            have e9 : rw_ + ((gZ S (gZ St (T - 1)) :: er (frT S ρ (sZ St (T - 1) (gZ St (T - 1) + 1)) En (V.length + 1))).length : Int) = rw_ + 1 + ((er (frT S ρ (sZ St (T - 1) (gZ St (T - 1) + 1)) En (V.length + 1))).length : Int) := by
              rw [List.length_cons]
              omega
            rw [e9]
            exact step _ k3
          · obtain ⟨St', En', R', r', k1, k2, k3, k4, k5, k6⟩ := k.2 (by rw [List.length_cons] at h9; omega)
            exact ⟨St', En', R', r', k1, k2, k3, k4, k5, step _ k6⟩
        · refine ⟨fun h9 => absurd h9 (by rw [List.length_cons]; omega), fun _ => ⟨sZ St (T - 1) (gZ St (T - 1) + 1), En, R, rw_, by rw [sZ_len]; exact hs1, hs2, hs3, w0, w1, go130 _ (Gx.fin 100 Cs.tt (fun C _ => ?_))⟩⟩
          simp (disch := first | (refine c1_id ?_; assumption) | (refine c1_st rfl ?_; first | assumption | (refine c1_st rfl ?_; first | assumption | (refine c1_st rfl ?_; first | assumption | (refine c1_st rfl ?_; assumption)))) | omega) [nx_l, nx_r, nx_n, x_st, x_push, x_bin, x_div, x_un, x_dup, x_pop, x_dup2, x_goto, x_ifeq, x_ifne, x_iflt, x_ifge, x_ifgt, x_ifle, x_iceq, x_icne, x_iclt, x_icge, x_icgt, x_icle, x_ifnull, x_ifnonnull, x_ldi, x_lda, x_sti, x_sta, x_iinc, x_gf, x_pf, x_ald, x_ast, x_aln, x_len, x_cl_, x_cv, x_cs, x_rc, x_r0, x_isT, x_oi, x_rv, x_ri, x_ra, Value.category, t114_0, t114_1, t114_2, t114_3, t114_6, t114_7, t114_8, t114_9, t114_10, t114_13, t114_14, t114_15, t114_16, t114_17, t114_20, t114_21, t114_24, t114_27, t114_28, t114_31, t114_32, t114_33, t114_34, t114_35, t114_37, t114_39, t114_40, t114_43, t114_44, t114_45, t114_46, t114_47, t114_50, t114_53, t114_56, t114_57, t114_60, t114_61, t114_62, t114_63, t114_64, t114_65, t114_66, t114_67, t114_68, t114_69, t114_72, t114_74, t114_75, t114_77, t114_79, t114_81, t114_84, t114_85, t114_88, t114_90, t114_91, t114_94, t114_95, t114_98, t114_99, t114_100, t114_103, t114_105, t114_106, t114_107, t114_108, t114_111, t114_112, t114_113, t114_114, t114_117, t114_119, t114_120, t114_123, t114_124, t114_127, t114_130, t114_131, t114_132, t114_135, t114_136, t114_139, t114_140, t114_143, t114_144, t114_145, t114_147, t114_150, t114_151, t114_154, t114_155, t114_158, t114_159, t114_162, t114_165, t114_166, t114_168, t114_171, t114_174, lk_s, hp_get, hp_set, uH_at, uH_ne, uH_upd, uH_swap, iZ_add, iZ_sub, iZ_mul, iZ_neg, iZ_lt, iZ_le, iZ_eq, iZ_div, iZ_of, ix_Z, gZ_map, gZ_mapI, gZ_map', le_0, le_s, sZ_map, sZ_len, bZ_0, bZ_inj, bZ_t, bZ_f, nr_i, nr_0, nr_1, nr_b, ft_i, ft_b, ft_0, ft_1, zl_0, zl_1, zl_40, zl_99, mF_len, mg_0, mg_1, mg_2, mg_3, mg_4, mg_5, mg_6, mg_7, mg_8, mg_9, mg_10, mg_11, mg_12, mg_13, mg_14, mg_15, mg_16, mg_17, mg_18, mg_19, mg_20, mg_21, mg_22, mg_23, mg_24, mg_25, mg_26, mg_27, mg_28, mg_29, mg_30, mg_31, mg_32, mg_33, mg_34, mg_35, mg_36, mg_37, mg_38, ms_0, ms_1, ms_2, ms_13, ms_14, ms_15, ms_16, ms_21, ms_22, ms_23, ms_24, ms_28, ms_36, ms_37, ms_38, st_at, st_ne, st_st, st_swap, spH, l0, l3, hA, hg, b0, -List.filter_filter, -List.getElem?_map, -List.getD_eq_getElem?_getD]
end SP
