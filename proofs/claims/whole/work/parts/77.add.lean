/-! the reference: a clause is added -/
theorem f107_0 : x_fetch q_k107 0 = x_lda 1 0 := rfl
theorem t107_0 (C : xF) (s n : Nat) (z : xS) : x_to q_k107 C s (n + 1) 0 z = x_nx q_k107 C s n ((x_lda 1 0) C z) := x_to_at f107_0 C s n z
theorem f107_1 : x_fetch q_k107 1 = x_gf 4 8 2 := rfl
theorem t107_1 (C : xF) (s n : Nat) (z : xS) : x_to q_k107 C s (n + 1) 1 z = x_nx q_k107 C s n ((x_gf 4 8 2) C z) := x_to_at f107_1 C s n z
theorem f107_4 : x_fetch q_k107 4 = x_sti 6 4 := rfl
theorem t107_4 (C : xF) (s n : Nat) (z : xS) : x_to q_k107 C s (n + 1) 4 z = x_nx q_k107 C s n ((x_sti 6 4) C z) := x_to_at f107_4 C s n z
theorem f107_6 : x_fetch q_k107 6 = x_lda 7 0 := rfl
theorem t107_6 (C : xF) (s n : Nat) (z : xS) : x_to q_k107 C s (n + 1) 6 z = x_nx q_k107 C s n ((x_lda 7 0) C z) := x_to_at f107_6 C s n z
theorem f107_7 : x_fetch q_k107 7 = x_st (x_dup 8) := rfl
theorem t107_7 (C : xF) (s n : Nat) (z : xS) : x_to q_k107 C s (n + 1) 7 z = x_nx q_k107 C s n ((x_st (x_dup 8)) C z) := x_to_at f107_7 C s n z
theorem f107_8 : x_fetch q_k107 8 = x_gf 11 8 2 := rfl
theorem t107_8 (C : xF) (s n : Nat) (z : xS) : x_to q_k107 C s (n + 1) 8 z = x_nx q_k107 C s n ((x_gf 11 8 2) C z) := x_to_at f107_8 C s n z
theorem f107_11 : x_fetch q_k107 11 = x_st (x_push 12 (.int (1))) := rfl
theorem t107_11 (C : xF) (s n : Nat) (z : xS) : x_to q_k107 C s (n + 1) 11 z = x_nx q_k107 C s n ((x_st (x_push 12 (.int (1)))) C z) := x_to_at f107_11 C s n z
theorem f107_12 : x_fetch q_k107 12 = x_st (x_bin 13 (fun a b => a + b)) := rfl
theorem t107_12 (C : xF) (s n : Nat) (z : xS) : x_to q_k107 C s (n + 1) 12 z = x_nx q_k107 C s n ((x_st (x_bin 13 (fun a b => a + b))) C z) := x_to_at f107_12 C s n z
theorem f107_13 : x_fetch q_k107 13 = x_pf 16 8 2 (.int) := rfl
theorem t107_13 (C : xF) (s n : Nat) (z : xS) : x_to q_k107 C s (n + 1) 13 z = x_nx q_k107 C s n ((x_pf 16 8 2 (.int)) C z) := x_to_at f107_13 C s n z
theorem f107_16 : x_fetch q_k107 16 = x_st (x_push 17 (.int (0))) := rfl
theorem t107_16 (C : xF) (s n : Nat) (z : xS) : x_to q_k107 C s (n + 1) 16 z = x_nx q_k107 C s n ((x_st (x_push 17 (.int (0)))) C z) := x_to_at f107_16 C s n z
theorem f107_17 : x_fetch q_k107 17 = x_sti 19 5 := rfl
theorem t107_17 (C : xF) (s n : Nat) (z : xS) : x_to q_k107 C s (n + 1) 17 z = x_nx q_k107 C s n ((x_sti 19 5) C z) := x_to_at f107_17 C s n z
theorem f107_19 : x_fetch q_k107 19 = x_ldi 21 5 := rfl
theorem t107_19 (C : xF) (s n : Nat) (z : xS) : x_to q_k107 C s (n + 1) 19 z = x_nx q_k107 C s n ((x_ldi 21 5) C z) := x_to_at f107_19 C s n z
theorem f107_21 : x_fetch q_k107 21 = x_lda 22 0 := rfl
theorem t107_21 (C : xF) (s n : Nat) (z : xS) : x_to q_k107 C s (n + 1) 21 z = x_nx q_k107 C s n ((x_lda 22 0) C z) := x_to_at f107_21 C s n z
theorem f107_22 : x_fetch q_k107 22 = x_gf 25 8 21 := rfl
theorem t107_22 (C : xF) (s n : Nat) (z : xS) : x_to q_k107 C s (n + 1) 22 z = x_nx q_k107 C s n ((x_gf 25 8 21) C z) := x_to_at f107_22 C s n z
theorem f107_25 : x_fetch q_k107 25 = x_st (x_icge 54 28) := rfl
theorem t107_25 (C : xF) (s n : Nat) (z : xS) : x_to q_k107 C s (n + 1) 25 z = x_nx q_k107 C s n ((x_st (x_icge 54 28)) C z) := x_to_at f107_25 C s n z
theorem f107_28 : x_fetch q_k107 28 = x_lda 29 0 := rfl
theorem t107_28 (C : xF) (s n : Nat) (z : xS) : x_to q_k107 C s (n + 1) 28 z = x_nx q_k107 C s n ((x_lda 29 0) C z) := x_to_at f107_28 C s n z
theorem f107_29 : x_fetch q_k107 29 = x_gf 32 8 3 := rfl
theorem t107_29 (C : xF) (s n : Nat) (z : xS) : x_to q_k107 C s (n + 1) 29 z = x_nx q_k107 C s n ((x_gf 32 8 3) C z) := x_to_at f107_29 C s n z
theorem f107_32 : x_fetch q_k107 32 = x_st (x_push 34 (.int (44))) := rfl
theorem t107_32 (C : xF) (s n : Nat) (z : xS) : x_to q_k107 C s (n + 1) 32 z = x_nx q_k107 C s n ((x_st (x_push 34 (.int (44)))) C z) := x_to_at f107_32 C s n z
theorem f107_34 : x_fetch q_k107 34 = x_ldi 36 4 := rfl
theorem t107_34 (C : xF) (s n : Nat) (z : xS) : x_to q_k107 C s (n + 1) 34 z = x_nx q_k107 C s n ((x_ldi 36 4) C z) := x_to_at f107_34 C s n z
theorem f107_36 : x_fetch q_k107 36 = x_st (x_bin 37 (fun a b => a * b)) := rfl
theorem t107_36 (C : xF) (s n : Nat) (z : xS) : x_to q_k107 C s (n + 1) 36 z = x_nx q_k107 C s n ((x_st (x_bin 37 (fun a b => a * b))) C z) := x_to_at f107_36 C s n z
theorem f107_37 : x_fetch q_k107 37 = x_ldi 39 5 := rfl
theorem t107_37 (C : xF) (s n : Nat) (z : xS) : x_to q_k107 C s (n + 1) 37 z = x_nx q_k107 C s n ((x_ldi 39 5) C z) := x_to_at f107_37 C s n z
theorem f107_39 : x_fetch q_k107 39 = x_st (x_bin 40 (fun a b => a + b)) := rfl
theorem t107_39 (C : xF) (s n : Nat) (z : xS) : x_to q_k107 C s (n + 1) 39 z = x_nx q_k107 C s n ((x_st (x_bin 40 (fun a b => a + b))) C z) := x_to_at f107_39 C s n z
theorem f107_40 : x_fetch q_k107 40 = x_lda 41 0 := rfl
theorem t107_40 (C : xF) (s n : Nat) (z : xS) : x_to q_k107 C s (n + 1) 40 z = x_nx q_k107 C s n ((x_lda 41 0) C z) := x_to_at f107_40 C s n z
theorem f107_41 : x_fetch q_k107 41 = x_gf 44 8 17 := rfl
theorem t107_41 (C : xF) (s n : Nat) (z : xS) : x_to q_k107 C s (n + 1) 41 z = x_nx q_k107 C s n ((x_gf 44 8 17) C z) := x_to_at f107_41 C s n z
theorem f107_44 : x_fetch q_k107 44 = x_ldi 46 5 := rfl
theorem t107_44 (C : xF) (s n : Nat) (z : xS) : x_to q_k107 C s (n + 1) 44 z = x_nx q_k107 C s n ((x_ldi 46 5) C z) := x_to_at f107_44 C s n z
theorem f107_46 : x_fetch q_k107 46 = x_ald 47 0 := rfl
theorem t107_46 (C : xF) (s n : Nat) (z : xS) : x_to q_k107 C s (n + 1) 46 z = x_nx q_k107 C s n ((x_ald 47 0) C z) := x_to_at f107_46 C s n z
theorem f107_47 : x_fetch q_k107 47 = x_ast 48 0 (fun x => x) := rfl
theorem t107_47 (C : xF) (s n : Nat) (z : xS) : x_to q_k107 C s (n + 1) 47 z = x_nx q_k107 C s n ((x_ast 48 0 (fun x => x)) C z) := x_to_at f107_47 C s n z
theorem f107_48 : x_fetch q_k107 48 = x_iinc 51 5 (1) := rfl
theorem t107_48 (C : xF) (s n : Nat) (z : xS) : x_to q_k107 C s (n + 1) 48 z = x_nx q_k107 C s n ((x_iinc 51 5 (1)) C z) := x_to_at f107_48 C s n z
theorem f107_51 : x_fetch q_k107 51 = x_st (x_goto 19) := rfl
theorem t107_51 (C : xF) (s n : Nat) (z : xS) : x_to q_k107 C s (n + 1) 51 z = x_nx q_k107 C s n ((x_st (x_goto 19)) C z) := x_to_at f107_51 C s n z
theorem f107_54 : x_fetch q_k107 54 = x_st (x_push 55 (.int (0))) := rfl
theorem t107_54 (C : xF) (s n : Nat) (z : xS) : x_to q_k107 C s (n + 1) 54 z = x_nx q_k107 C s n ((x_st (x_push 55 (.int (0)))) C z) := x_to_at f107_54 C s n z
theorem f107_55 : x_fetch q_k107 55 = x_sti 57 5 := rfl
theorem t107_55 (C : xF) (s n : Nat) (z : xS) : x_to q_k107 C s (n + 1) 55 z = x_nx q_k107 C s n ((x_sti 57 5) C z) := x_to_at f107_55 C s n z
theorem f107_57 : x_fetch q_k107 57 = x_ldi 59 5 := rfl
theorem t107_57 (C : xF) (s n : Nat) (z : xS) : x_to q_k107 C s (n + 1) 57 z = x_nx q_k107 C s n ((x_ldi 59 5) C z) := x_to_at f107_57 C s n z
theorem f107_59 : x_fetch q_k107 59 = x_lda 60 0 := rfl
theorem t107_59 (C : xF) (s n : Nat) (z : xS) : x_to q_k107 C s (n + 1) 59 z = x_nx q_k107 C s n ((x_lda 60 0) C z) := x_to_at f107_59 C s n z
theorem f107_60 : x_fetch q_k107 60 = x_gf 63 8 22 := rfl
theorem t107_60 (C : xF) (s n : Nat) (z : xS) : x_to q_k107 C s (n + 1) 60 z = x_nx q_k107 C s n ((x_gf 63 8 22) C z) := x_to_at f107_60 C s n z
theorem f107_63 : x_fetch q_k107 63 = x_st (x_icgt 92 66) := rfl
theorem t107_63 (C : xF) (s n : Nat) (z : xS) : x_to q_k107 C s (n + 1) 63 z = x_nx q_k107 C s n ((x_st (x_icgt 92 66)) C z) := x_to_at f107_63 C s n z
theorem f107_66 : x_fetch q_k107 66 = x_lda 67 0 := rfl
theorem t107_66 (C : xF) (s n : Nat) (z : xS) : x_to q_k107 C s (n + 1) 66 z = x_nx q_k107 C s n ((x_lda 67 0) C z) := x_to_at f107_66 C s n z
theorem f107_67 : x_fetch q_k107 67 = x_gf 70 8 4 := rfl
theorem t107_67 (C : xF) (s n : Nat) (z : xS) : x_to q_k107 C s (n + 1) 67 z = x_nx q_k107 C s n ((x_gf 70 8 4) C z) := x_to_at f107_67 C s n z
theorem f107_70 : x_fetch q_k107 70 = x_st (x_push 72 (.int (7))) := rfl
theorem t107_70 (C : xF) (s n : Nat) (z : xS) : x_to q_k107 C s (n + 1) 70 z = x_nx q_k107 C s n ((x_st (x_push 72 (.int (7)))) C z) := x_to_at f107_70 C s n z
theorem f107_72 : x_fetch q_k107 72 = x_ldi 74 4 := rfl
theorem t107_72 (C : xF) (s n : Nat) (z : xS) : x_to q_k107 C s (n + 1) 72 z = x_nx q_k107 C s n ((x_ldi 74 4) C z) := x_to_at f107_72 C s n z
theorem f107_74 : x_fetch q_k107 74 = x_st (x_bin 75 (fun a b => a * b)) := rfl
theorem t107_74 (C : xF) (s n : Nat) (z : xS) : x_to q_k107 C s (n + 1) 74 z = x_nx q_k107 C s n ((x_st (x_bin 75 (fun a b => a * b))) C z) := x_to_at f107_74 C s n z
theorem f107_75 : x_fetch q_k107 75 = x_ldi 77 5 := rfl
theorem t107_75 (C : xF) (s n : Nat) (z : xS) : x_to q_k107 C s (n + 1) 75 z = x_nx q_k107 C s n ((x_ldi 77 5) C z) := x_to_at f107_75 C s n z
theorem f107_77 : x_fetch q_k107 77 = x_st (x_bin 78 (fun a b => a + b)) := rfl
theorem t107_77 (C : xF) (s n : Nat) (z : xS) : x_to q_k107 C s (n + 1) 77 z = x_nx q_k107 C s n ((x_st (x_bin 78 (fun a b => a + b))) C z) := x_to_at f107_77 C s n z
theorem f107_78 : x_fetch q_k107 78 = x_lda 79 0 := rfl
theorem t107_78 (C : xF) (s n : Nat) (z : xS) : x_to q_k107 C s (n + 1) 78 z = x_nx q_k107 C s n ((x_lda 79 0) C z) := x_to_at f107_78 C s n z
theorem f107_79 : x_fetch q_k107 79 = x_gf 82 8 18 := rfl
theorem t107_79 (C : xF) (s n : Nat) (z : xS) : x_to q_k107 C s (n + 1) 79 z = x_nx q_k107 C s n ((x_gf 82 8 18) C z) := x_to_at f107_79 C s n z
theorem f107_82 : x_fetch q_k107 82 = x_ldi 84 5 := rfl
theorem t107_82 (C : xF) (s n : Nat) (z : xS) : x_to q_k107 C s (n + 1) 82 z = x_nx q_k107 C s n ((x_ldi 84 5) C z) := x_to_at f107_82 C s n z
theorem f107_84 : x_fetch q_k107 84 = x_ald 85 0 := rfl
theorem t107_84 (C : xF) (s n : Nat) (z : xS) : x_to q_k107 C s (n + 1) 84 z = x_nx q_k107 C s n ((x_ald 85 0) C z) := x_to_at f107_84 C s n z
theorem f107_85 : x_fetch q_k107 85 = x_ast 86 0 (fun x => x) := rfl
theorem t107_85 (C : xF) (s n : Nat) (z : xS) : x_to q_k107 C s (n + 1) 85 z = x_nx q_k107 C s n ((x_ast 86 0 (fun x => x)) C z) := x_to_at f107_85 C s n z
theorem f107_86 : x_fetch q_k107 86 = x_iinc 89 5 (1) := rfl
theorem t107_86 (C : xF) (s n : Nat) (z : xS) : x_to q_k107 C s (n + 1) 86 z = x_nx q_k107 C s n ((x_iinc 89 5 (1)) C z) := x_to_at f107_86 C s n z
theorem f107_89 : x_fetch q_k107 89 = x_st (x_goto 57) := rfl
theorem t107_89 (C : xF) (s n : Nat) (z : xS) : x_to q_k107 C s (n + 1) 89 z = x_nx q_k107 C s n ((x_st (x_goto 57)) C z) := x_to_at f107_89 C s n z
theorem f107_92 : x_fetch q_k107 92 = x_st (x_push 93 (.int (0))) := rfl
theorem t107_92 (C : xF) (s n : Nat) (z : xS) : x_to q_k107 C s (n + 1) 92 z = x_nx q_k107 C s n ((x_st (x_push 93 (.int (0)))) C z) := x_to_at f107_92 C s n z
theorem f107_93 : x_fetch q_k107 93 = x_sti 95 5 := rfl
theorem t107_93 (C : xF) (s n : Nat) (z : xS) : x_to q_k107 C s (n + 1) 93 z = x_nx q_k107 C s n ((x_sti 95 5) C z) := x_to_at f107_93 C s n z
theorem f107_95 : x_fetch q_k107 95 = x_ldi 97 5 := rfl
theorem t107_95 (C : xF) (s n : Nat) (z : xS) : x_to q_k107 C s (n + 1) 95 z = x_nx q_k107 C s n ((x_ldi 97 5) C z) := x_to_at f107_95 C s n z
theorem f107_97 : x_fetch q_k107 97 = x_lda 98 0 := rfl
theorem t107_97 (C : xF) (s n : Nat) (z : xS) : x_to q_k107 C s (n + 1) 97 z = x_nx q_k107 C s n ((x_lda 98 0) C z) := x_to_at f107_97 C s n z
theorem f107_98 : x_fetch q_k107 98 = x_gf 101 8 22 := rfl
theorem t107_98 (C : xF) (s n : Nat) (z : xS) : x_to q_k107 C s (n + 1) 98 z = x_nx q_k107 C s n ((x_gf 101 8 22) C z) := x_to_at f107_98 C s n z
theorem f107_101 : x_fetch q_k107 101 = x_st (x_icge 130 104) := rfl
theorem t107_101 (C : xF) (s n : Nat) (z : xS) : x_to q_k107 C s (n + 1) 101 z = x_nx q_k107 C s n ((x_st (x_icge 130 104)) C z) := x_to_at f107_101 C s n z
theorem f107_104 : x_fetch q_k107 104 = x_lda 105 0 := rfl
theorem t107_104 (C : xF) (s n : Nat) (z : xS) : x_to q_k107 C s (n + 1) 104 z = x_nx q_k107 C s n ((x_lda 105 0) C z) := x_to_at f107_104 C s n z
theorem f107_105 : x_fetch q_k107 105 = x_gf 108 8 8 := rfl
theorem t107_105 (C : xF) (s n : Nat) (z : xS) : x_to q_k107 C s (n + 1) 105 z = x_nx q_k107 C s n ((x_gf 108 8 8) C z) := x_to_at f107_105 C s n z
theorem f107_108 : x_fetch q_k107 108 = x_st (x_push 110 (.int (7))) := rfl
theorem t107_108 (C : xF) (s n : Nat) (z : xS) : x_to q_k107 C s (n + 1) 108 z = x_nx q_k107 C s n ((x_st (x_push 110 (.int (7)))) C z) := x_to_at f107_108 C s n z
theorem f107_110 : x_fetch q_k107 110 = x_ldi 112 4 := rfl
theorem t107_110 (C : xF) (s n : Nat) (z : xS) : x_to q_k107 C s (n + 1) 110 z = x_nx q_k107 C s n ((x_ldi 112 4) C z) := x_to_at f107_110 C s n z
theorem f107_112 : x_fetch q_k107 112 = x_st (x_bin 113 (fun a b => a * b)) := rfl
theorem t107_112 (C : xF) (s n : Nat) (z : xS) : x_to q_k107 C s (n + 1) 112 z = x_nx q_k107 C s n ((x_st (x_bin 113 (fun a b => a * b))) C z) := x_to_at f107_112 C s n z
theorem f107_113 : x_fetch q_k107 113 = x_ldi 115 5 := rfl
theorem t107_113 (C : xF) (s n : Nat) (z : xS) : x_to q_k107 C s (n + 1) 113 z = x_nx q_k107 C s n ((x_ldi 115 5) C z) := x_to_at f107_113 C s n z
theorem f107_115 : x_fetch q_k107 115 = x_st (x_bin 116 (fun a b => a + b)) := rfl
theorem t107_115 (C : xF) (s n : Nat) (z : xS) : x_to q_k107 C s (n + 1) 115 z = x_nx q_k107 C s n ((x_st (x_bin 116 (fun a b => a + b))) C z) := x_to_at f107_115 C s n z
theorem f107_116 : x_fetch q_k107 116 = x_lda 117 0 := rfl
theorem t107_116 (C : xF) (s n : Nat) (z : xS) : x_to q_k107 C s (n + 1) 116 z = x_nx q_k107 C s n ((x_lda 117 0) C z) := x_to_at f107_116 C s n z
theorem f107_117 : x_fetch q_k107 117 = x_gf 120 8 20 := rfl
theorem t107_117 (C : xF) (s n : Nat) (z : xS) : x_to q_k107 C s (n + 1) 117 z = x_nx q_k107 C s n ((x_gf 120 8 20) C z) := x_to_at f107_117 C s n z
theorem f107_120 : x_fetch q_k107 120 = x_ldi 122 5 := rfl
theorem t107_120 (C : xF) (s n : Nat) (z : xS) : x_to q_k107 C s (n + 1) 120 z = x_nx q_k107 C s n ((x_ldi 122 5) C z) := x_to_at f107_120 C s n z
theorem f107_122 : x_fetch q_k107 122 = x_ald 123 1 := rfl
theorem t107_122 (C : xF) (s n : Nat) (z : xS) : x_to q_k107 C s (n + 1) 122 z = x_nx q_k107 C s n ((x_ald 123 1) C z) := x_to_at f107_122 C s n z
theorem f107_123 : x_fetch q_k107 123 = x_ast 124 1 (fun x => vp_nar .boolean x) := rfl
theorem t107_123 (C : xF) (s n : Nat) (z : xS) : x_to q_k107 C s (n + 1) 123 z = x_nx q_k107 C s n ((x_ast 124 1 (fun x => vp_nar .boolean x)) C z) := x_to_at f107_123 C s n z
theorem f107_124 : x_fetch q_k107 124 = x_iinc 127 5 (1) := rfl
theorem t107_124 (C : xF) (s n : Nat) (z : xS) : x_to q_k107 C s (n + 1) 124 z = x_nx q_k107 C s n ((x_iinc 127 5 (1)) C z) := x_to_at f107_124 C s n z
theorem f107_127 : x_fetch q_k107 127 = x_st (x_goto 95) := rfl
theorem t107_127 (C : xF) (s n : Nat) (z : xS) : x_to q_k107 C s (n + 1) 127 z = x_nx q_k107 C s n ((x_st (x_goto 95)) C z) := x_to_at f107_127 C s n z
theorem f107_130 : x_fetch q_k107 130 = x_lda 131 0 := rfl
theorem t107_130 (C : xF) (s n : Nat) (z : xS) : x_to q_k107 C s (n + 1) 130 z = x_nx q_k107 C s n ((x_lda 131 0) C z) := x_to_at f107_130 C s n z
theorem f107_131 : x_fetch q_k107 131 = x_gf 134 8 5 := rfl
theorem t107_131 (C : xF) (s n : Nat) (z : xS) : x_to q_k107 C s (n + 1) 131 z = x_nx q_k107 C s n ((x_gf 134 8 5) C z) := x_to_at f107_131 C s n z
theorem f107_134 : x_fetch q_k107 134 = x_ldi 136 4 := rfl
theorem t107_134 (C : xF) (s n : Nat) (z : xS) : x_to q_k107 C s (n + 1) 134 z = x_nx q_k107 C s n ((x_ldi 136 4) C z) := x_to_at f107_134 C s n z
theorem f107_136 : x_fetch q_k107 136 = x_lda 137 0 := rfl
theorem t107_136 (C : xF) (s n : Nat) (z : xS) : x_to q_k107 C s (n + 1) 136 z = x_nx q_k107 C s n ((x_lda 137 0) C z) := x_to_at f107_136 C s n z
theorem f107_137 : x_fetch q_k107 137 = x_gf 140 8 22 := rfl
theorem t107_137 (C : xF) (s n : Nat) (z : xS) : x_to q_k107 C s (n + 1) 137 z = x_nx q_k107 C s n ((x_gf 140 8 22) C z) := x_to_at f107_137 C s n z
theorem f107_140 : x_fetch q_k107 140 = x_ast 141 0 (fun x => x) := rfl
theorem t107_140 (C : xF) (s n : Nat) (z : xS) : x_to q_k107 C s (n + 1) 140 z = x_nx q_k107 C s n ((x_ast 141 0 (fun x => x)) C z) := x_to_at f107_140 C s n z
theorem f107_141 : x_fetch q_k107 141 = x_lda 142 0 := rfl
theorem t107_141 (C : xF) (s n : Nat) (z : xS) : x_to q_k107 C s (n + 1) 141 z = x_nx q_k107 C s n ((x_lda 142 0) C z) := x_to_at f107_141 C s n z
theorem f107_142 : x_fetch q_k107 142 = x_gf 145 8 9 := rfl
theorem t107_142 (C : xF) (s n : Nat) (z : xS) : x_to q_k107 C s (n + 1) 142 z = x_nx q_k107 C s n ((x_gf 145 8 9) C z) := x_to_at f107_142 C s n z
theorem f107_145 : x_fetch q_k107 145 = x_ldi 147 4 := rfl
theorem t107_145 (C : xF) (s n : Nat) (z : xS) : x_to q_k107 C s (n + 1) 145 z = x_nx q_k107 C s n ((x_ldi 147 4) C z) := x_to_at f107_145 C s n z
theorem f107_147 : x_fetch q_k107 147 = x_ldi 148 1 := rfl
theorem t107_147 (C : xF) (s n : Nat) (z : xS) : x_to q_k107 C s (n + 1) 147 z = x_nx q_k107 C s n ((x_ldi 148 1) C z) := x_to_at f107_147 C s n z
theorem f107_148 : x_fetch q_k107 148 = x_ast 149 1 (fun x => vp_nar .boolean x) := rfl
theorem t107_148 (C : xF) (s n : Nat) (z : xS) : x_to q_k107 C s (n + 1) 148 z = x_nx q_k107 C s n ((x_ast 149 1 (fun x => vp_nar .boolean x)) C z) := x_to_at f107_148 C s n z
theorem f107_149 : x_fetch q_k107 149 = x_lda 150 0 := rfl
theorem t107_149 (C : xF) (s n : Nat) (z : xS) : x_to q_k107 C s (n + 1) 149 z = x_nx q_k107 C s n ((x_lda 150 0) C z) := x_to_at f107_149 C s n z
theorem f107_150 : x_fetch q_k107 150 = x_gf 153 8 6 := rfl
theorem t107_150 (C : xF) (s n : Nat) (z : xS) : x_to q_k107 C s (n + 1) 150 z = x_nx q_k107 C s n ((x_gf 153 8 6) C z) := x_to_at f107_150 C s n z
theorem f107_153 : x_fetch q_k107 153 = x_ldi 155 4 := rfl
theorem t107_153 (C : xF) (s n : Nat) (z : xS) : x_to q_k107 C s (n + 1) 153 z = x_nx q_k107 C s n ((x_ldi 155 4) C z) := x_to_at f107_153 C s n z
theorem f107_155 : x_fetch q_k107 155 = x_ldi 156 2 := rfl
theorem t107_155 (C : xF) (s n : Nat) (z : xS) : x_to q_k107 C s (n + 1) 155 z = x_nx q_k107 C s n ((x_ldi 156 2) C z) := x_to_at f107_155 C s n z
theorem f107_156 : x_fetch q_k107 156 = x_ast 157 0 (fun x => x) := rfl
theorem t107_156 (C : xF) (s n : Nat) (z : xS) : x_to q_k107 C s (n + 1) 156 z = x_nx q_k107 C s n ((x_ast 157 0 (fun x => x)) C z) := x_to_at f107_156 C s n z
theorem f107_157 : x_fetch q_k107 157 = x_lda 158 0 := rfl
theorem t107_157 (C : xF) (s n : Nat) (z : xS) : x_to q_k107 C s (n + 1) 157 z = x_nx q_k107 C s n ((x_lda 158 0) C z) := x_to_at f107_157 C s n z
theorem f107_158 : x_fetch q_k107 158 = x_gf 161 8 7 := rfl
theorem t107_158 (C : xF) (s n : Nat) (z : xS) : x_to q_k107 C s (n + 1) 158 z = x_nx q_k107 C s n ((x_gf 161 8 7) C z) := x_to_at f107_158 C s n z
theorem f107_161 : x_fetch q_k107 161 = x_ldi 163 4 := rfl
theorem t107_161 (C : xF) (s n : Nat) (z : xS) : x_to q_k107 C s (n + 1) 161 z = x_nx q_k107 C s n ((x_ldi 163 4) C z) := x_to_at f107_161 C s n z
theorem f107_163 : x_fetch q_k107 163 = x_ldi 164 1 := rfl
theorem t107_163 (C : xF) (s n : Nat) (z : xS) : x_to q_k107 C s (n + 1) 163 z = x_nx q_k107 C s n ((x_ldi 164 1) C z) := x_to_at f107_163 C s n z
theorem f107_164 : x_fetch q_k107 164 = x_st (x_ifeq 174 167) := rfl
theorem t107_164 (C : xF) (s n : Nat) (z : xS) : x_to q_k107 C s (n + 1) 164 z = x_nx q_k107 C s n ((x_st (x_ifeq 174 167)) C z) := x_to_at f107_164 C s n z
theorem f107_167 : x_fetch q_k107 167 = x_st (x_push 168 (.int (1))) := rfl
theorem t107_167 (C : xF) (s n : Nat) (z : xS) : x_to q_k107 C s (n + 1) 167 z = x_nx q_k107 C s n ((x_st (x_push 168 (.int (1)))) C z) := x_to_at f107_167 C s n z
set_option maxRecDepth 20000 in
theorem f107_168 : x_fetch q_k107 168 = x_ldi 170 4 := rfl
theorem t107_168 (C : xF) (s n : Nat) (z : xS) : x_to q_k107 C s (n + 1) 168 z = x_nx q_k107 C s n ((x_ldi 170 4) C z) := x_to_at f107_168 C s n z
set_option maxRecDepth 20000 in
theorem f107_170 : x_fetch q_k107 170 = x_st (x_bin 171 (fun a b => a <<< (b &&& 31))) := rfl
theorem t107_170 (C : xF) (s n : Nat) (z : xS) : x_to q_k107 C s (n + 1) 170 z = x_nx q_k107 C s n ((x_st (x_bin 171 (fun a b => a <<< (b &&& 31)))) C z) := x_to_at f107_170 C s n z
set_option maxRecDepth 20000 in
theorem f107_171 : x_fetch q_k107 171 = x_st (x_goto 175) := rfl
theorem t107_171 (C : xF) (s n : Nat) (z : xS) : x_to q_k107 C s (n + 1) 171 z = x_nx q_k107 C s n ((x_st (x_goto 175)) C z) := x_to_at f107_171 C s n z
set_option maxRecDepth 20000 in
theorem f107_174 : x_fetch q_k107 174 = x_ldi 175 3 := rfl
theorem t107_174 (C : xF) (s n : Nat) (z : xS) : x_to q_k107 C s (n + 1) 174 z = x_nx q_k107 C s n ((x_ldi 175 3) C z) := x_to_at f107_174 C s n z
set_option maxRecDepth 20000 in
theorem f107_175 : x_fetch q_k107 175 = x_ast 176 0 (fun x => x) := rfl
theorem t107_175 (C : xF) (s n : Nat) (z : xS) : x_to q_k107 C s (n + 1) 175 z = x_nx q_k107 C s n ((x_ast 176 0 (fun x => x)) C z) := x_to_at f107_175 C s n z
set_option maxRecDepth 20000 in
theorem f107_176 : x_fetch q_k107 176 = x_ldi 178 4 := rfl
theorem t107_176 (C : xF) (s n : Nat) (z : xS) : x_to q_k107 C s (n + 1) 176 z = x_nx q_k107 C s n ((x_ldi 178 4) C z) := x_to_at f107_176 C s n z
set_option maxRecDepth 20000 in
theorem f107_178 : x_fetch q_k107 178 = x_ri (.int) := rfl
theorem t107_178 (C : xF) (s n : Nat) (z : xS) : x_to q_k107 C s (n + 1) 178 z = x_nx q_k107 C s n ((x_ri (.int)) C z) := x_to_at f107_178 C s n z
theorem nar_of {v : Int} (h : v = 0 ∨ v = 1) : vp_nar .boolean (iZ v) = iZ v := by rcases h with rfl | rfl <;> decide
theorem gZ_neg {S : List Int} {i : Int} (h : i ≤ 0) : gZ S i = gZ S 0 := by
  unfold gZ
  rw [show i.toNat = (0 : Int).toNat by omega]
theorem shl_N : ∀ n : Nat, n < 30 → iZ 1 <<< (iZ (n : Int) &&& 31) = iZ ((2 ^ n : Nat) : Int)
  | 0, _ => rfl
  | 1, _ => rfl
  | 2, _ => rfl
  | 3, _ => rfl
  | 4, _ => rfl
  | 5, _ => rfl
  | 6, _ => rfl
  | 7, _ => rfl
  | 8, _ => rfl
  | 9, _ => rfl
  | 10, _ => rfl
  | 11, _ => rfl
  | 12, _ => rfl
  | 13, _ => rfl
  | 14, _ => rfl
  | 15, _ => rfl
  | 16, _ => rfl
  | 17, _ => rfl
  | 18, _ => rfl
  | 19, _ => rfl
  | 20, _ => rfl
  | 21, _ => rfl
  | 22, _ => rfl
  | 23, _ => rfl
  | 24, _ => rfl
  | 25, _ => rfl
  | 26, _ => rfl
  | 27, _ => rfl
  | 28, _ => rfl
  | 29, _ => rfl
  | n + 30, h => absurd h (by omega)
theorem shl_Z {c : Int} (h0 : 0 ≤ c) (h1 : c < 30) : iZ 1 <<< (iZ c &&& 31) = iZ ((2 ^ c.toNat : Nat) : Int) := by
  have := shl_N c.toNat (by omega)
  rw [show ((c.toNat : Nat) : Int) = c by omega] at this
  exact this
def ksA : List Nat := [27, 28, 29, 30, 31, 32, 33, 34]
section AD
variable {w : Nat → xC} {N : Nat} {m : Nat → Int} {x : Nat → List Int} {R Sa Mi : List Int} {C : List (Int × List Int)}
theorem l107_19 (d : Nat) (hN : 53 ≤ N) (hm : w 27 = .inr (8, mF m)) (hR : w 38 = cI 0 R) (s1 : R.length = 600) (c : Int) (c0 : 0 ≤ c) (c9 : c < 30) (h7 : m 7 ≤ 44) : ∀ (r : Nat) (k : Int) (Q : List Int) (lv : xL), Q.length = 1320 → k + r = m 7 → 0 ≤ k → c1 lv → x_lk lv 0 = some (.ref 30) → x_lk lv 5 = some (.int (iZ k)) → x_lk lv 4 = some (.int (iZ c)) → ∃ lv', c1 lv' ∧ (∀ j, j ≠ 5 → x_lk lv' j = x_lk lv j) ∧ ∀ res, Gx q_k107 d 54 (lv', [], hp (uH w 28 (cI 0 (cpl (44 * c) (fun k => gZ R k) r k Q))) N) res →
    Gx q_k107 d 19 (lv, [], hp (uH w 28 (cI 0 Q)) N) res := by
  intro r
  induction r with
  | zero =>
    intro k Q lv hQ hk h0 hc l0 l1 q4
    refine ⟨lv, hc, fun _ _ => rfl, fun res hcont => ?_⟩
    refine Gx.run 60 Cs.tt (fun C _ => ?_) hcont
    have b1 : m 7 ≤ k := by omega
    simp (disch := first | (refine c1_id ?_; assumption) | (refine c1_st rfl ?_; repeat (first | assumption | refine c1_st rfl ?_)) | omega) [nx_l, nx_r, nx_n, x_st, x_push, x_bin, x_div, x_un, x_dup, x_pop, x_dup2, x_goto, x_ifeq, x_ifne, x_iflt, x_ifge, x_ifgt, x_ifle, x_iceq, x_icne, x_iclt, x_icge, x_icgt, x_icle, x_ifnull, x_ifnonnull, x_ldi, x_lda, x_sti, x_sta, x_iinc, x_gf, x_pf, x_ald, x_ast, x_aln, x_len, x_cl_, x_cv, x_cs, x_rc, x_r0, x_isT, x_oi, x_rv, x_ri, x_ra, Value.category, t107_0, t107_1, t107_4, t107_6, t107_7, t107_8, t107_11, t107_12, t107_13, t107_16, t107_17, t107_19, t107_21, t107_22, t107_25, t107_28, t107_29, t107_32, t107_34, t107_36, t107_37, t107_39, t107_40, t107_41, t107_44, t107_46, t107_47, t107_48, t107_51, t107_54, t107_55, t107_57, t107_59, t107_60, t107_63, t107_66, t107_67, t107_70, t107_72, t107_74, t107_75, t107_77, t107_78, t107_79, t107_82, t107_84, t107_85, t107_86, t107_89, t107_92, t107_93, t107_95, t107_97, t107_98, t107_101, t107_104, t107_105, t107_108, t107_110, t107_112, t107_113, t107_115, t107_116, t107_117, t107_120, t107_122, t107_123, t107_124, t107_127, t107_130, t107_131, t107_134, t107_136, t107_137, t107_140, t107_141, t107_142, t107_145, t107_147, t107_148, t107_149, t107_150, t107_153, t107_155, t107_156, t107_157, t107_158, t107_161, t107_163, t107_164, t107_167, t107_168, t107_170, t107_171, t107_174, t107_175, t107_176, t107_178, lk_s, hp_get, hp_set, uH_at, uH_ne, uH_upd, uH_swap, iZ_add, iZ_sub, iZ_mul, iZ_neg, iZ_lt, iZ_le, iZ_eq, iZ_div, iZ_of, ix_Z, gZ_map, gZ_mapI, gZ_map', le_0, le_s, sZ_map, sZ_len, bZ_0, bZ_inj, bZ_t, bZ_f, nr_i, nr_0, nr_1, nr_b, ft_i, ft_b, ft_0, ft_1, zl_0, zl_1, zl_7, zl_44, mF_len, mg_0, mg_1, mg_2, mg_3, mg_4, mg_5, mg_6, mg_7, mg_8, mg_9, mg_10, mg_11, mg_12, mg_13, mg_14, mg_15, mg_16, mg_17, mg_18, mg_19, mg_20, mg_21, mg_22, mg_23, mg_24, mg_25, mg_26, mg_27, mg_28, mg_29, mg_30, mg_31, mg_32, mg_33, mg_34, mg_35, mg_36, mg_37, mg_38, ms_0, ms_1, ms_2, ms_13, ms_14, ms_15, ms_16, ms_21, ms_22, ms_23, ms_24, ms_28, ms_36, ms_37, ms_38, st_at, st_ne, st_st, st_swap, l0, l1, q4, hm, hR, b1, cpl, -List.filter_filter, -List.getElem?_map, -List.getD_eq_getElem?_getD]
  | succ r ih =>
    intro k Q lv hQ hk h0 hc l0 l1 q4
    obtain ⟨lv', h1, h2, h3⟩ := ih (k + 1) (sZ Q (44 * c + k) ((fun k => gZ R k) k)) (((5 : Nat), .int (iZ (k + 1))) :: List.filter (x_keep 5) lv) (by rw [sZ_len]; exact hQ) (by omega) (by omega) (c1_st rfl hc) (by rw [lk_s hc]; exact l0) (by rw [lk_s hc]; rfl) (by rw [lk_s hc]; exact q4) 
    refine ⟨lv', h1, fun j hj => by rw [h2 j hj, lk_s hc, if_neg (Ne.symm hj)], fun res hcont => ?_⟩
    refine Gx.run 60 Cs.tt (fun C _ => ?_) (h3 res hcont)
    have b1 : ¬ m 7 ≤ k := by omega
    simp (disch := first | (refine c1_id ?_; assumption) | (refine c1_st rfl ?_; repeat (first | assumption | refine c1_st rfl ?_)) | omega) [nx_l, nx_r, nx_n, x_st, x_push, x_bin, x_div, x_un, x_dup, x_pop, x_dup2, x_goto, x_ifeq, x_ifne, x_iflt, x_ifge, x_ifgt, x_ifle, x_iceq, x_icne, x_iclt, x_icge, x_icgt, x_icle, x_ifnull, x_ifnonnull, x_ldi, x_lda, x_sti, x_sta, x_iinc, x_gf, x_pf, x_ald, x_ast, x_aln, x_len, x_cl_, x_cv, x_cs, x_rc, x_r0, x_isT, x_oi, x_rv, x_ri, x_ra, Value.category, t107_0, t107_1, t107_4, t107_6, t107_7, t107_8, t107_11, t107_12, t107_13, t107_16, t107_17, t107_19, t107_21, t107_22, t107_25, t107_28, t107_29, t107_32, t107_34, t107_36, t107_37, t107_39, t107_40, t107_41, t107_44, t107_46, t107_47, t107_48, t107_51, t107_54, t107_55, t107_57, t107_59, t107_60, t107_63, t107_66, t107_67, t107_70, t107_72, t107_74, t107_75, t107_77, t107_78, t107_79, t107_82, t107_84, t107_85, t107_86, t107_89, t107_92, t107_93, t107_95, t107_97, t107_98, t107_101, t107_104, t107_105, t107_108, t107_110, t107_112, t107_113, t107_115, t107_116, t107_117, t107_120, t107_122, t107_123, t107_124, t107_127, t107_130, t107_131, t107_134, t107_136, t107_137, t107_140, t107_141, t107_142, t107_145, t107_147, t107_148, t107_149, t107_150, t107_153, t107_155, t107_156, t107_157, t107_158, t107_161, t107_163, t107_164, t107_167, t107_168, t107_170, t107_171, t107_174, t107_175, t107_176, t107_178, lk_s, hp_get, hp_set, uH_at, uH_ne, uH_upd, uH_swap, iZ_add, iZ_sub, iZ_mul, iZ_neg, iZ_lt, iZ_le, iZ_eq, iZ_div, iZ_of, ix_Z, gZ_map, gZ_mapI, gZ_map', le_0, le_s, sZ_map, sZ_len, bZ_0, bZ_inj, bZ_t, bZ_f, nr_i, nr_0, nr_1, nr_b, ft_i, ft_b, ft_0, ft_1, zl_0, zl_1, zl_7, zl_44, mF_len, mg_0, mg_1, mg_2, mg_3, mg_4, mg_5, mg_6, mg_7, mg_8, mg_9, mg_10, mg_11, mg_12, mg_13, mg_14, mg_15, mg_16, mg_17, mg_18, mg_19, mg_20, mg_21, mg_22, mg_23, mg_24, mg_25, mg_26, mg_27, mg_28, mg_29, mg_30, mg_31, mg_32, mg_33, mg_34, mg_35, mg_36, mg_37, mg_38, ms_0, ms_1, ms_2, ms_13, ms_14, ms_15, ms_16, ms_21, ms_22, ms_23, ms_24, ms_28, ms_36, ms_37, ms_38, st_at, st_ne, st_st, st_swap, l0, l1, q4, hm, hR, b1, -List.filter_filter, -List.getElem?_map, -List.getD_eq_getElem?_getD]

theorem l107_57 (d : Nat) (hN : 53 ≤ N) (hm : w 27 = .inr (8, mF m)) (hSa : w 39 = cI 0 Sa) (s2 : Sa.length = 14) (c : Int) (c0 : 0 ≤ c) (c9 : c < 30) (h8 : m 8 ≤ 6) : ∀ (r : Nat) (k : Int) (Q : List Int) (lv : xL), Q.length = 210 → k + r = m 8 + 1 → 0 ≤ k → c1 lv → x_lk lv 0 = some (.ref 30) → x_lk lv 5 = some (.int (iZ k)) → x_lk lv 4 = some (.int (iZ c)) → ∃ lv', c1 lv' ∧ (∀ j, j ≠ 5 → x_lk lv' j = x_lk lv j) ∧ ∀ res, Gx q_k107 d 92 (lv', [], hp (uH w 29 (cI 0 (cpl (7 * c) (fun k => gZ Sa k) r k Q))) N) res →
    Gx q_k107 d 57 (lv, [], hp (uH w 29 (cI 0 Q)) N) res := by
  intro r
  induction r with
  | zero =>
    intro k Q lv hQ hk h0 hc l0 l1 q4
    refine ⟨lv, hc, fun _ _ => rfl, fun res hcont => ?_⟩
    refine Gx.run 60 Cs.tt (fun C _ => ?_) hcont
    have b1 : m 8 < k := by omega
    simp (disch := first | (refine c1_id ?_; assumption) | (refine c1_st rfl ?_; repeat (first | assumption | refine c1_st rfl ?_)) | omega) [nx_l, nx_r, nx_n, x_st, x_push, x_bin, x_div, x_un, x_dup, x_pop, x_dup2, x_goto, x_ifeq, x_ifne, x_iflt, x_ifge, x_ifgt, x_ifle, x_iceq, x_icne, x_iclt, x_icge, x_icgt, x_icle, x_ifnull, x_ifnonnull, x_ldi, x_lda, x_sti, x_sta, x_iinc, x_gf, x_pf, x_ald, x_ast, x_aln, x_len, x_cl_, x_cv, x_cs, x_rc, x_r0, x_isT, x_oi, x_rv, x_ri, x_ra, Value.category, t107_0, t107_1, t107_4, t107_6, t107_7, t107_8, t107_11, t107_12, t107_13, t107_16, t107_17, t107_19, t107_21, t107_22, t107_25, t107_28, t107_29, t107_32, t107_34, t107_36, t107_37, t107_39, t107_40, t107_41, t107_44, t107_46, t107_47, t107_48, t107_51, t107_54, t107_55, t107_57, t107_59, t107_60, t107_63, t107_66, t107_67, t107_70, t107_72, t107_74, t107_75, t107_77, t107_78, t107_79, t107_82, t107_84, t107_85, t107_86, t107_89, t107_92, t107_93, t107_95, t107_97, t107_98, t107_101, t107_104, t107_105, t107_108, t107_110, t107_112, t107_113, t107_115, t107_116, t107_117, t107_120, t107_122, t107_123, t107_124, t107_127, t107_130, t107_131, t107_134, t107_136, t107_137, t107_140, t107_141, t107_142, t107_145, t107_147, t107_148, t107_149, t107_150, t107_153, t107_155, t107_156, t107_157, t107_158, t107_161, t107_163, t107_164, t107_167, t107_168, t107_170, t107_171, t107_174, t107_175, t107_176, t107_178, lk_s, hp_get, hp_set, uH_at, uH_ne, uH_upd, uH_swap, iZ_add, iZ_sub, iZ_mul, iZ_neg, iZ_lt, iZ_le, iZ_eq, iZ_div, iZ_of, ix_Z, gZ_map, gZ_mapI, gZ_map', le_0, le_s, sZ_map, sZ_len, bZ_0, bZ_inj, bZ_t, bZ_f, nr_i, nr_0, nr_1, nr_b, ft_i, ft_b, ft_0, ft_1, zl_0, zl_1, zl_7, zl_44, mF_len, mg_0, mg_1, mg_2, mg_3, mg_4, mg_5, mg_6, mg_7, mg_8, mg_9, mg_10, mg_11, mg_12, mg_13, mg_14, mg_15, mg_16, mg_17, mg_18, mg_19, mg_20, mg_21, mg_22, mg_23, mg_24, mg_25, mg_26, mg_27, mg_28, mg_29, mg_30, mg_31, mg_32, mg_33, mg_34, mg_35, mg_36, mg_37, mg_38, ms_0, ms_1, ms_2, ms_13, ms_14, ms_15, ms_16, ms_21, ms_22, ms_23, ms_24, ms_28, ms_36, ms_37, ms_38, st_at, st_ne, st_st, st_swap, l0, l1, q4, hm, hSa, b1, cpl, -List.filter_filter, -List.getElem?_map, -List.getD_eq_getElem?_getD]
  | succ r ih =>
    intro k Q lv hQ hk h0 hc l0 l1 q4
    obtain ⟨lv', h1, h2, h3⟩ := ih (k + 1) (sZ Q (7 * c + k) ((fun k => gZ Sa k) k)) (((5 : Nat), .int (iZ (k + 1))) :: List.filter (x_keep 5) lv) (by rw [sZ_len]; exact hQ) (by omega) (by omega) (c1_st rfl hc) (by rw [lk_s hc]; exact l0) (by rw [lk_s hc]; rfl) (by rw [lk_s hc]; exact q4) 
    refine ⟨lv', h1, fun j hj => by rw [h2 j hj, lk_s hc, if_neg (Ne.symm hj)], fun res hcont => ?_⟩
    refine Gx.run 60 Cs.tt (fun C _ => ?_) (h3 res hcont)
    have b1 : ¬ m 8 < k := by omega
    simp (disch := first | (refine c1_id ?_; assumption) | (refine c1_st rfl ?_; repeat (first | assumption | refine c1_st rfl ?_)) | omega) [nx_l, nx_r, nx_n, x_st, x_push, x_bin, x_div, x_un, x_dup, x_pop, x_dup2, x_goto, x_ifeq, x_ifne, x_iflt, x_ifge, x_ifgt, x_ifle, x_iceq, x_icne, x_iclt, x_icge, x_icgt, x_icle, x_ifnull, x_ifnonnull, x_ldi, x_lda, x_sti, x_sta, x_iinc, x_gf, x_pf, x_ald, x_ast, x_aln, x_len, x_cl_, x_cv, x_cs, x_rc, x_r0, x_isT, x_oi, x_rv, x_ri, x_ra, Value.category, t107_0, t107_1, t107_4, t107_6, t107_7, t107_8, t107_11, t107_12, t107_13, t107_16, t107_17, t107_19, t107_21, t107_22, t107_25, t107_28, t107_29, t107_32, t107_34, t107_36, t107_37, t107_39, t107_40, t107_41, t107_44, t107_46, t107_47, t107_48, t107_51, t107_54, t107_55, t107_57, t107_59, t107_60, t107_63, t107_66, t107_67, t107_70, t107_72, t107_74, t107_75, t107_77, t107_78, t107_79, t107_82, t107_84, t107_85, t107_86, t107_89, t107_92, t107_93, t107_95, t107_97, t107_98, t107_101, t107_104, t107_105, t107_108, t107_110, t107_112, t107_113, t107_115, t107_116, t107_117, t107_120, t107_122, t107_123, t107_124, t107_127, t107_130, t107_131, t107_134, t107_136, t107_137, t107_140, t107_141, t107_142, t107_145, t107_147, t107_148, t107_149, t107_150, t107_153, t107_155, t107_156, t107_157, t107_158, t107_161, t107_163, t107_164, t107_167, t107_168, t107_170, t107_171, t107_174, t107_175, t107_176, t107_178, lk_s, hp_get, hp_set, uH_at, uH_ne, uH_upd, uH_swap, iZ_add, iZ_sub, iZ_mul, iZ_neg, iZ_lt, iZ_le, iZ_eq, iZ_div, iZ_of, ix_Z, gZ_map, gZ_mapI, gZ_map', le_0, le_s, sZ_map, sZ_len, bZ_0, bZ_inj, bZ_t, bZ_f, nr_i, nr_0, nr_1, nr_b, ft_i, ft_b, ft_0, ft_1, zl_0, zl_1, zl_7, zl_44, mF_len, mg_0, mg_1, mg_2, mg_3, mg_4, mg_5, mg_6, mg_7, mg_8, mg_9, mg_10, mg_11, mg_12, mg_13, mg_14, mg_15, mg_16, mg_17, mg_18, mg_19, mg_20, mg_21, mg_22, mg_23, mg_24, mg_25, mg_26, mg_27, mg_28, mg_29, mg_30, mg_31, mg_32, mg_33, mg_34, mg_35, mg_36, mg_37, mg_38, ms_0, ms_1, ms_2, ms_13, ms_14, ms_15, ms_16, ms_21, ms_22, ms_23, ms_24, ms_28, ms_36, ms_37, ms_38, st_at, st_ne, st_st, st_swap, l0, l1, q4, hm, hSa, b1, -List.filter_filter, -List.getElem?_map, -List.getD_eq_getElem?_getD]

theorem l107_95 (d : Nat) (hN : 53 ≤ N) (hm : w 27 = .inr (8, mF m)) (hMi : w 41 = cI 1 Mi) (s3 : Mi.length = 14) (hv : ∀ i, vp_nar .boolean (iZ (gZ Mi i)) = iZ (gZ Mi i)) (c : Int) (c0 : 0 ≤ c) (c9 : c < 30) (h8 : m 8 ≤ 6) : ∀ (r : Nat) (k : Int) (Q : List Int) (lv : xL), Q.length = 210 → k + r = m 8 → 0 ≤ k → c1 lv → x_lk lv 0 = some (.ref 30) → x_lk lv 5 = some (.int (iZ k)) → x_lk lv 4 = some (.int (iZ c)) → ∃ lv', c1 lv' ∧ (∀ j, j ≠ 5 → x_lk lv' j = x_lk lv j) ∧ ∀ res, Gx q_k107 d 130 (lv', [], hp (uH w 33 (cI 1 (cpl (7 * c) (fun k => gZ Mi k) r k Q))) N) res →
    Gx q_k107 d 95 (lv, [], hp (uH w 33 (cI 1 Q)) N) res := by
  intro r
  induction r with
  | zero =>
    intro k Q lv hQ hk h0 hc l0 l1 q4
    refine ⟨lv, hc, fun _ _ => rfl, fun res hcont => ?_⟩
    refine Gx.run 60 Cs.tt (fun C _ => ?_) hcont
    have b1 : m 8 ≤ k := by omega
    simp (disch := first | (refine c1_id ?_; assumption) | (refine c1_st rfl ?_; repeat (first | assumption | refine c1_st rfl ?_)) | omega) [nx_l, nx_r, nx_n, x_st, x_push, x_bin, x_div, x_un, x_dup, x_pop, x_dup2, x_goto, x_ifeq, x_ifne, x_iflt, x_ifge, x_ifgt, x_ifle, x_iceq, x_icne, x_iclt, x_icge, x_icgt, x_icle, x_ifnull, x_ifnonnull, x_ldi, x_lda, x_sti, x_sta, x_iinc, x_gf, x_pf, x_ald, x_ast, x_aln, x_len, x_cl_, x_cv, x_cs, x_rc, x_r0, x_isT, x_oi, x_rv, x_ri, x_ra, Value.category, t107_0, t107_1, t107_4, t107_6, t107_7, t107_8, t107_11, t107_12, t107_13, t107_16, t107_17, t107_19, t107_21, t107_22, t107_25, t107_28, t107_29, t107_32, t107_34, t107_36, t107_37, t107_39, t107_40, t107_41, t107_44, t107_46, t107_47, t107_48, t107_51, t107_54, t107_55, t107_57, t107_59, t107_60, t107_63, t107_66, t107_67, t107_70, t107_72, t107_74, t107_75, t107_77, t107_78, t107_79, t107_82, t107_84, t107_85, t107_86, t107_89, t107_92, t107_93, t107_95, t107_97, t107_98, t107_101, t107_104, t107_105, t107_108, t107_110, t107_112, t107_113, t107_115, t107_116, t107_117, t107_120, t107_122, t107_123, t107_124, t107_127, t107_130, t107_131, t107_134, t107_136, t107_137, t107_140, t107_141, t107_142, t107_145, t107_147, t107_148, t107_149, t107_150, t107_153, t107_155, t107_156, t107_157, t107_158, t107_161, t107_163, t107_164, t107_167, t107_168, t107_170, t107_171, t107_174, t107_175, t107_176, t107_178, lk_s, hp_get, hp_set, uH_at, uH_ne, uH_upd, uH_swap, iZ_add, iZ_sub, iZ_mul, iZ_neg, iZ_lt, iZ_le, iZ_eq, iZ_div, iZ_of, ix_Z, gZ_map, gZ_mapI, gZ_map', le_0, le_s, sZ_map, sZ_len, bZ_0, bZ_inj, bZ_t, bZ_f, nr_i, nr_0, nr_1, nr_b, ft_i, ft_b, ft_0, ft_1, zl_0, zl_1, zl_7, zl_44, mF_len, mg_0, mg_1, mg_2, mg_3, mg_4, mg_5, mg_6, mg_7, mg_8, mg_9, mg_10, mg_11, mg_12, mg_13, mg_14, mg_15, mg_16, mg_17, mg_18, mg_19, mg_20, mg_21, mg_22, mg_23, mg_24, mg_25, mg_26, mg_27, mg_28, mg_29, mg_30, mg_31, mg_32, mg_33, mg_34, mg_35, mg_36, mg_37, mg_38, ms_0, ms_1, ms_2, ms_13, ms_14, ms_15, ms_16, ms_21, ms_22, ms_23, ms_24, ms_28, ms_36, ms_37, ms_38, st_at, st_ne, st_st, st_swap, l0, l1, q4, hm, hMi, hv, b1, cpl, -List.filter_filter, -List.getElem?_map, -List.getD_eq_getElem?_getD]
  | succ r ih =>
    intro k Q lv hQ hk h0 hc l0 l1 q4
    obtain ⟨lv', h1, h2, h3⟩ := ih (k + 1) (sZ Q (7 * c + k) ((fun k => gZ Mi k) k)) (((5 : Nat), .int (iZ (k + 1))) :: List.filter (x_keep 5) lv) (by rw [sZ_len]; exact hQ) (by omega) (by omega) (c1_st rfl hc) (by rw [lk_s hc]; exact l0) (by rw [lk_s hc]; rfl) (by rw [lk_s hc]; exact q4) 
    refine ⟨lv', h1, fun j hj => by rw [h2 j hj, lk_s hc, if_neg (Ne.symm hj)], fun res hcont => ?_⟩
    refine Gx.run 60 Cs.tt (fun C _ => ?_) (h3 res hcont)
    have b1 : ¬ m 8 ≤ k := by omega
    simp (disch := first | (refine c1_id ?_; assumption) | (refine c1_st rfl ?_; repeat (first | assumption | refine c1_st rfl ?_)) | omega) [nx_l, nx_r, nx_n, x_st, x_push, x_bin, x_div, x_un, x_dup, x_pop, x_dup2, x_goto, x_ifeq, x_ifne, x_iflt, x_ifge, x_ifgt, x_ifle, x_iceq, x_icne, x_iclt, x_icge, x_icgt, x_icle, x_ifnull, x_ifnonnull, x_ldi, x_lda, x_sti, x_sta, x_iinc, x_gf, x_pf, x_ald, x_ast, x_aln, x_len, x_cl_, x_cv, x_cs, x_rc, x_r0, x_isT, x_oi, x_rv, x_ri, x_ra, Value.category, t107_0, t107_1, t107_4, t107_6, t107_7, t107_8, t107_11, t107_12, t107_13, t107_16, t107_17, t107_19, t107_21, t107_22, t107_25, t107_28, t107_29, t107_32, t107_34, t107_36, t107_37, t107_39, t107_40, t107_41, t107_44, t107_46, t107_47, t107_48, t107_51, t107_54, t107_55, t107_57, t107_59, t107_60, t107_63, t107_66, t107_67, t107_70, t107_72, t107_74, t107_75, t107_77, t107_78, t107_79, t107_82, t107_84, t107_85, t107_86, t107_89, t107_92, t107_93, t107_95, t107_97, t107_98, t107_101, t107_104, t107_105, t107_108, t107_110, t107_112, t107_113, t107_115, t107_116, t107_117, t107_120, t107_122, t107_123, t107_124, t107_127, t107_130, t107_131, t107_134, t107_136, t107_137, t107_140, t107_141, t107_142, t107_145, t107_147, t107_148, t107_149, t107_150, t107_153, t107_155, t107_156, t107_157, t107_158, t107_161, t107_163, t107_164, t107_167, t107_168, t107_170, t107_171, t107_174, t107_175, t107_176, t107_178, lk_s, hp_get, hp_set, uH_at, uH_ne, uH_upd, uH_swap, iZ_add, iZ_sub, iZ_mul, iZ_neg, iZ_lt, iZ_le, iZ_eq, iZ_div, iZ_of, ix_Z, gZ_map, gZ_mapI, gZ_map', le_0, le_s, sZ_map, sZ_len, bZ_0, bZ_inj, bZ_t, bZ_f, nr_i, nr_0, nr_1, nr_b, ft_i, ft_b, ft_0, ft_1, zl_0, zl_1, zl_7, zl_44, mF_len, mg_0, mg_1, mg_2, mg_3, mg_4, mg_5, mg_6, mg_7, mg_8, mg_9, mg_10, mg_11, mg_12, mg_13, mg_14, mg_15, mg_16, mg_17, mg_18, mg_19, mg_20, mg_21, mg_22, mg_23, mg_24, mg_25, mg_26, mg_27, mg_28, mg_29, mg_30, mg_31, mg_32, mg_33, mg_34, mg_35, mg_36, mg_37, mg_38, ms_0, ms_1, ms_2, ms_13, ms_14, ms_15, ms_16, ms_21, ms_22, ms_23, ms_24, ms_28, ms_36, ms_37, ms_38, st_at, st_ne, st_st, st_swap, l0, l1, q4, hm, hMi, hv, b1, -List.filter_filter, -List.getElem?_map, -List.getD_eq_getElem?_getD]

theorem m107 (d : Nat) (hN : 53 ≤ N) (h : RO w m x) (hI : RI x) (hW : RW C (x 38) (x 39) (x 41)) (e8 : m 8 = C.length) (e7 : m 7 = (flt C).length) (g : gC C) (c : Int) (ec : m 2 = c) (c0 : 0 ≤ c) (c9 : c < 30) (b : Bool) (deep needs : Int) :
    ∃ (w' : Nat → xC) (x' : Nat → List Int), RO w' (st_ m 2 (c + 1)) x' ∧ Fr ksA w w' ∧ (∀ j, ¬ j ∈ ksA → x' j = x j) ∧ RI x' ∧ RD c C x' ∧ (∀ a D, 0 ≤ a → a < c → RD a D x → RD a D x') ∧ (∀ a, 0 ≤ a → gZ (x' 34) a = if a = c then bZ b else gZ (x 34) a) ∧ (∀ a, 0 ≤ a → gZ (x' 31) a = if a = c then deep else gZ (x 31) a) ∧ (∀ a, 0 ≤ a → gZ (x' 32) a = if a = c then (if b = true then ((2 ^ c.toNat : Nat) : Int) else needs) else gZ (x 32) a) ∧ Xc (d + 1) 107 [.ref 30, .int (iZ (bZ b)), .int (iZ deep), .int (iZ needs)] (hp w N) (some (.int (iZ c)), hp w' N) := by
  have g1 := g.1
  have g2 := g.2.1
  have hsh := shl_Z c0 c9
  obtain ⟨m1, hm1⟩ : ∃ m1, m1 = st_ m 2 (c + 1) := ⟨_, rfl⟩
  have k7 : m1 7 = m 7 := by rw [hm1]; exact st_ne (by decide)
  have k8 : m1 8 = m 8 := by rw [hm1]; exact st_ne (by decide)
  obtain ⟨w0, hw0⟩ : ∃ w0, w0 = uH w 27 (.inr (8, mF m1)) := ⟨_, rfl⟩
  have R0 : RO w0 m1 x := by rw [hw0]; exact h.fld m1
  have r0 : ∀ j, 28 ≤ j → j ≤ 51 → w0 j = cI (kdR j) (x j) ∧ (x j).length = lnR j := R0.2
  have hc : c1 (lv_args 0 [.ref 30, .int (iZ (bZ b)), .int (iZ deep), .int (iZ needs)]) := by simp [c1, lv_args, Value.category]
  have l0 : x_lk (lv_args 0 [.ref 30, .int (iZ (bZ b)), .int (iZ deep), .int (iZ needs)]) 0 = some (.ref 30) := rfl
  have l1 : x_lk (lv_args 0 [.ref 30, .int (iZ (bZ b)), .int (iZ deep), .int (iZ needs)]) 1 = some (.int (iZ (bZ b))) := rfl
  have l2 : x_lk (lv_args 0 [.ref 30, .int (iZ (bZ b)), .int (iZ deep), .int (iZ needs)]) 2 = some (.int (iZ deep)) := rfl
  have l3 : x_lk (lv_args 0 [.ref 30, .int (iZ (bZ b)), .int (iZ deep), .int (iZ needs)]) 3 = some (.int (iZ needs)) := rfl
  have C4 := c1_st (i := 4) (v := .int (iZ c)) rfl hc
  have C5 := c1_st (i := 5) (v := .int (iZ 0)) rfl C4
  have h28 : w0 28 = cI 0 (x 28) := (r0 28 (by decide) (by decide)).1
  have n28 : (x 28).length = 1320 := (r0 28 (by decide) (by decide)).2
  obtain ⟨lvA, hA, sA, gA⟩ := l107_19 (w := w0) (m := m1) (R := x 38) d hN R0.1 (r0 38 (by decide) (by decide)).1 (r0 38 (by decide) (by decide)).2 c c0 c9 (by omega) (flt C).length 0 (x 28) _ n28 (by omega) (by omega) C5 (by rw [lk_s C4, lk_s hc]; exact l0) (by rw [lk_s C4]; rfl) (by rw [lk_s C4, lk_s hc]; rfl)
  rw [uH_self h28] at gA
  obtain ⟨Q1, hQ1⟩ : ∃ Q, Q = cpl (44 * c) (fun k => gZ (x 38) k) (flt C).length 0 (x 28) := ⟨_, rfl⟩
  have nQ1 : Q1.length = 1320 := by rw [hQ1, cpl_len]; exact n28
  rw [← hQ1] at gA
  obtain ⟨w1, hw1⟩ : ∃ w1, w1 = uH w0 28 (cI 0 Q1) := ⟨_, rfl⟩
  have R1 : RO w1 m1 (ux x 28 Q1) := by rw [hw1]; exact R0.set (j := 28) (by decide) nQ1
  rw [← hw1] at gA
  have r1 : ∀ j, 28 ≤ j → j ≤ 51 → w1 j = cI (kdR j) (ux x 28 Q1 j) ∧ (ux x 28 Q1 j).length = lnR j := R1.2
  have a0 : x_lk lvA 0 = some (.ref 30) := by rw [sA 0 (by decide), lk_s C4, lk_s hc]; exact l0
  have a1 : x_lk lvA 1 = some (.int (iZ (bZ b))) := by rw [sA 1 (by decide), lk_s C4, lk_s hc]; exact l1
  have a2 : x_lk lvA 2 = some (.int (iZ deep)) := by rw [sA 2 (by decide), lk_s C4, lk_s hc]; exact l2
  have a3 : x_lk lvA 3 = some (.int (iZ needs)) := by rw [sA 3 (by decide), lk_s C4, lk_s hc]; exact l3
  have a4 : x_lk lvA 4 = some (.int (iZ c)) := by rw [sA 4 (by decide), lk_s C4, lk_s hc]; rfl
  have A5 := c1_st (i := 5) (v := .int (iZ 0)) rfl hA
  have h29 : w1 29 = cI 0 (x 29) := (r1 29 (by decide) (by decide)).1
  have n29 : (x 29).length = 210 := (r1 29 (by decide) (by decide)).2
  obtain ⟨lvB, hB, sB, gB⟩ := l107_57 (w := w1) (m := m1) (Sa := x 39) d hN R1.1 (r1 39 (by decide) (by decide)).1 (r1 39 (by decide) (by decide)).2 c c0 c9 (by omega) (C.length + 1) 0 (x 29) _ n29 (by omega) (by omega) A5 (by rw [lk_s hA]; exact a0) (by rw [lk_s hA]; rfl) (by rw [lk_s hA]; exact a4)
  rw [uH_self h29] at gB
  obtain ⟨Q2, hQ2⟩ : ∃ Q, Q = cpl (7 * c) (fun k => gZ (x 39) k) (C.length + 1) 0 (x 29) := ⟨_, rfl⟩
  have nQ2 : Q2.length = 210 := by rw [hQ2, cpl_len]; exact n29
  rw [← hQ2] at gB
  obtain ⟨w2, hw2⟩ : ∃ w2, w2 = uH w1 29 (cI 0 Q2) := ⟨_, rfl⟩
  have R2 : RO w2 m1 (ux (ux x 28 Q1) 29 Q2) := by rw [hw2]; exact R1.set (j := 29) (by decide) nQ2
  rw [← hw2] at gB
  have r2 : ∀ j, 28 ≤ j → j ≤ 51 → w2 j = cI (kdR j) (ux (ux x 28 Q1) 29 Q2 j) ∧ (ux (ux x 28 Q1) 29 Q2 j).length = lnR j := R2.2
  have b0 : x_lk lvB 0 = some (.ref 30) := by rw [sB 0 (by decide), lk_s hA]; exact a0
  have b1 : x_lk lvB 1 = some (.int (iZ (bZ b))) := by rw [sB 1 (by decide), lk_s hA]; exact a1
  have b2 : x_lk lvB 2 = some (.int (iZ deep)) := by rw [sB 2 (by decide), lk_s hA]; exact a2
  have b3 : x_lk lvB 3 = some (.int (iZ needs)) := by rw [sB 3 (by decide), lk_s hA]; exact a3
  have b4 : x_lk lvB 4 = some (.int (iZ c)) := by rw [sB 4 (by decide), lk_s hA]; exact a4
  have B5 := c1_st (i := 5) (v := .int (iZ 0)) rfl hB
  have h33 : w2 33 = cI 1 (x 33) := (r2 33 (by decide) (by decide)).1
  have n33 : (x 33).length = 210 := (r2 33 (by decide) (by decide)).2
  obtain ⟨lvE, hE, sE, gE⟩ := l107_95 (w := w2) (m := m1) (Mi := x 41) d hN R2.1 (r2 41 (by decide) (by decide)).1 (r2 41 (by decide) (by decide)).2 (fun i => nar_of (hI.2.1 i)) c c0 c9 (by omega) C.length 0 (x 33) _ n33 (by omega) (by omega) B5 (by rw [lk_s hB]; exact b0) (by rw [lk_s hB]; rfl) (by rw [lk_s hB]; exact b4)
  rw [uH_self h33] at gE
  obtain ⟨Q3, hQ3⟩ : ∃ Q, Q = cpl (7 * c) (fun k => gZ (x 41) k) C.length 0 (x 33) := ⟨_, rfl⟩
  have nQ3 : Q3.length = 210 := by rw [hQ3, cpl_len]; exact n33
  rw [← hQ3] at gE
  obtain ⟨w3, hw3⟩ : ∃ w3, w3 = uH w2 33 (cI 1 Q3) := ⟨_, rfl⟩
  have R3 : RO w3 m1 (ux (ux (ux x 28 Q1) 29 Q2) 33 Q3) := by rw [hw3]; exact R2.set (j := 33) (by decide) nQ3
  rw [← hw3] at gE
  have r3 : ∀ j, 28 ≤ j → j ≤ 51 → w3 j = cI (kdR j) (ux (ux (ux x 28 Q1) 29 Q2) 33 Q3 j) ∧ (ux (ux (ux x 28 Q1) 29 Q2) 33 Q3 j).length = lnR j := R3.2
  have c0_ : x_lk lvE 0 = some (.ref 30) := by rw [sE 0 (by decide), lk_s hB]; exact b0
  have c1_ : x_lk lvE 1 = some (.int (iZ (bZ b))) := by rw [sE 1 (by decide), lk_s hB]; exact b1
  have c2_ : x_lk lvE 2 = some (.int (iZ deep)) := by rw [sE 2 (by decide), lk_s hB]; exact b2
  have c3_ : x_lk lvE 3 = some (.int (iZ needs)) := by rw [sE 3 (by decide), lk_s hB]; exact b3
  have c4_ : x_lk lvE 4 = some (.int (iZ c)) := by rw [sE 4 (by decide), lk_s hB]; exact b4
  have h30 : w3 30 = cI 0 (x 30) := (r3 30 (by decide) (by decide)).1
  have n30 : (x 30).length = 30 := (r3 30 (by decide) (by decide)).2
  have h31 : w3 31 = cI 0 (x 31) := (r3 31 (by decide) (by decide)).1
  have n31 : (x 31).length = 30 := (r3 31 (by decide) (by decide)).2
  have h32 : w3 32 = cI 0 (x 32) := (r3 32 (by decide) (by decide)).1
  have n32 : (x 32).length = 30 := (r3 32 (by decide) (by decide)).2
  have h34 : w3 34 = cI 1 (x 34) := (r3 34 (by decide) (by decide)).1
  have n34 : (x 34).length = 30 := (r3 34 (by decide) (by decide)).2
  have nb : vp_nar .boolean (iZ (bZ b)) = iZ (bZ b) := nar_of (by cases b; exact Or.inl rfl; exact Or.inr rfl)
  have hmm := R3.1
  obtain ⟨nd, hnd⟩ : ∃ nd : Int, nd = if b = true then ((2 ^ c.toNat : Nat) : Int) else needs := ⟨_, rfl⟩
  have gF : Gx q_k107 d 130 (lvE, [], hp w3 N) (some (.int (iZ c)), hp (uH (uH (uH (uH w3 30 (cI 0 (sZ (x 30) c (m 8)))) 31 (cI 0 (sZ (x 31) c deep))) 32 (cI 0 (sZ (x 32) c nd))) 34 (cI 1 (sZ (x 34) c (bZ b)))) N) := by
    refine Gx.fin 80 Cs.tt (fun C _ => ?_)
    cases b with
    | false =>
      rw [if_neg (by decide)] at hnd
      subst hnd
      rw [bZ_f] at c1_ nb ⊢
      simp (disch := first | (refine c1_id ?_; assumption) | (refine c1_st rfl ?_; repeat (first | assumption | refine c1_st rfl ?_)) | omega) [nx_l, nx_r, nx_n, x_st, x_push, x_bin, x_div, x_un, x_dup, x_pop, x_dup2, x_goto, x_ifeq, x_ifne, x_iflt, x_ifge, x_ifgt, x_ifle, x_iceq, x_icne, x_iclt, x_icge, x_icgt, x_icle, x_ifnull, x_ifnonnull, x_ldi, x_lda, x_sti, x_sta, x_iinc, x_gf, x_pf, x_ald, x_ast, x_aln, x_len, x_cl_, x_cv, x_cs, x_rc, x_r0, x_isT, x_oi, x_rv, x_ri, x_ra, Value.category, t107_0, t107_1, t107_4, t107_6, t107_7, t107_8, t107_11, t107_12, t107_13, t107_16, t107_17, t107_19, t107_21, t107_22, t107_25, t107_28, t107_29, t107_32, t107_34, t107_36, t107_37, t107_39, t107_40, t107_41, t107_44, t107_46, t107_47, t107_48, t107_51, t107_54, t107_55, t107_57, t107_59, t107_60, t107_63, t107_66, t107_67, t107_70, t107_72, t107_74, t107_75, t107_77, t107_78, t107_79, t107_82, t107_84, t107_85, t107_86, t107_89, t107_92, t107_93, t107_95, t107_97, t107_98, t107_101, t107_104, t107_105, t107_108, t107_110, t107_112, t107_113, t107_115, t107_116, t107_117, t107_120, t107_122, t107_123, t107_124, t107_127, t107_130, t107_131, t107_134, t107_136, t107_137, t107_140, t107_141, t107_142, t107_145, t107_147, t107_148, t107_149, t107_150, t107_153, t107_155, t107_156, t107_157, t107_158, t107_161, t107_163, t107_164, t107_167, t107_168, t107_170, t107_171, t107_174, t107_175, t107_176, t107_178, lk_s, hp_get, hp_set, uH_at, uH_ne, uH_upd, uH_swap, iZ_add, iZ_sub, iZ_mul, iZ_neg, iZ_lt, iZ_le, iZ_eq, iZ_div, iZ_of, ix_Z, gZ_map, gZ_mapI, gZ_map', le_0, le_s, sZ_map, sZ_len, bZ_0, bZ_inj, bZ_t, bZ_f, nr_i, nr_0, nr_1, nr_b, ft_i, ft_b, ft_0, ft_1, zl_0, zl_1, zl_7, zl_44, mF_len, mg_0, mg_1, mg_2, mg_3, mg_4, mg_5, mg_6, mg_7, mg_8, mg_9, mg_10, mg_11, mg_12, mg_13, mg_14, mg_15, mg_16, mg_17, mg_18, mg_19, mg_20, mg_21, mg_22, mg_23, mg_24, mg_25, mg_26, mg_27, mg_28, mg_29, mg_30, mg_31, mg_32, mg_33, mg_34, mg_35, mg_36, mg_37, mg_38, ms_0, ms_1, ms_2, ms_13, ms_14, ms_15, ms_16, ms_21, ms_22, ms_23, ms_24, ms_28, ms_36, ms_37, ms_38, st_at, st_ne, st_st, st_swap, c0_, c1_, c2_, c3_, c4_, hmm, h30, h31, h32, h34, nb, k8, -List.filter_filter, -List.getElem?_map, -List.getD_eq_getElem?_getD]
    | true =>
      rw [if_pos rfl] at hnd
      subst hnd
      rw [bZ_t] at c1_ nb ⊢
      simp (disch := first | (refine c1_id ?_; assumption) | (refine c1_st rfl ?_; repeat (first | assumption | refine c1_st rfl ?_)) | omega) [nx_l, nx_r, nx_n, x_st, x_push, x_bin, x_div, x_un, x_dup, x_pop, x_dup2, x_goto, x_ifeq, x_ifne, x_iflt, x_ifge, x_ifgt, x_ifle, x_iceq, x_icne, x_iclt, x_icge, x_icgt, x_icle, x_ifnull, x_ifnonnull, x_ldi, x_lda, x_sti, x_sta, x_iinc, x_gf, x_pf, x_ald, x_ast, x_aln, x_len, x_cl_, x_cv, x_cs, x_rc, x_r0, x_isT, x_oi, x_rv, x_ri, x_ra, Value.category, t107_0, t107_1, t107_4, t107_6, t107_7, t107_8, t107_11, t107_12, t107_13, t107_16, t107_17, t107_19, t107_21, t107_22, t107_25, t107_28, t107_29, t107_32, t107_34, t107_36, t107_37, t107_39, t107_40, t107_41, t107_44, t107_46, t107_47, t107_48, t107_51, t107_54, t107_55, t107_57, t107_59, t107_60, t107_63, t107_66, t107_67, t107_70, t107_72, t107_74, t107_75, t107_77, t107_78, t107_79, t107_82, t107_84, t107_85, t107_86, t107_89, t107_92, t107_93, t107_95, t107_97, t107_98, t107_101, t107_104, t107_105, t107_108, t107_110, t107_112, t107_113, t107_115, t107_116, t107_117, t107_120, t107_122, t107_123, t107_124, t107_127, t107_130, t107_131, t107_134, t107_136, t107_137, t107_140, t107_141, t107_142, t107_145, t107_147, t107_148, t107_149, t107_150, t107_153, t107_155, t107_156, t107_157, t107_158, t107_161, t107_163, t107_164, t107_167, t107_168, t107_170, t107_171, t107_174, t107_175, t107_176, t107_178, lk_s, hp_get, hp_set, uH_at, uH_ne, uH_upd, uH_swap, iZ_add, iZ_sub, iZ_mul, iZ_neg, iZ_lt, iZ_le, iZ_eq, iZ_div, iZ_of, ix_Z, gZ_map, gZ_mapI, gZ_map', le_0, le_s, sZ_map, sZ_len, bZ_0, bZ_inj, bZ_t, bZ_f, nr_i, nr_0, nr_1, nr_b, ft_i, ft_b, ft_0, ft_1, zl_0, zl_1, zl_7, zl_44, mF_len, mg_0, mg_1, mg_2, mg_3, mg_4, mg_5, mg_6, mg_7, mg_8, mg_9, mg_10, mg_11, mg_12, mg_13, mg_14, mg_15, mg_16, mg_17, mg_18, mg_19, mg_20, mg_21, mg_22, mg_23, mg_24, mg_25, mg_26, mg_27, mg_28, mg_29, mg_30, mg_31, mg_32, mg_33, mg_34, mg_35, mg_36, mg_37, mg_38, ms_0, ms_1, ms_2, ms_13, ms_14, ms_15, ms_16, ms_21, ms_22, ms_23, ms_24, ms_28, ms_36, ms_37, ms_38, st_at, st_ne, st_st, st_swap, c0_, c1_, c2_, c3_, c4_, hmm, h30, h31, h32, h34, nb, k8, hsh, -List.filter_filter, -List.getElem?_map, -List.getD_eq_getElem?_getD]
  have R4 : RO (uH (uH (uH (uH w3 30 (cI 0 (sZ (x 30) c (m 8)))) 31 (cI 0 (sZ (x 31) c deep))) 32 (cI 0 (sZ (x 32) c nd))) 34 (cI 1 (sZ (x 34) c (bZ b)))) m1 (ux (ux (ux (ux (ux (ux (ux x 28 Q1) 29 Q2) 33 Q3) 30 (sZ (x 30) c (m 8))) 31 (sZ (x 31) c deep)) 32 (sZ (x 32) c nd)) 34 (sZ (x 34) c (bZ b))) := (((R3.set (j := 30) (by decide) (by rw [sZ_len]; exact n30)).set (j := 31) (by decide) (by rw [sZ_len]; exact n31)).set (j := 32) (by decide) (by rw [sZ_len]; exact n32)).set (j := 34) (by decide) (by rw [sZ_len]; exact n34)
  have F4 : Fr ksA w (uH (uH (uH (uH w3 30 (cI 0 (sZ (x 30) c (m 8)))) 31 (cI 0 (sZ (x 31) c deep))) 32 (cI 0 (sZ (x 32) c nd))) 34 (cI 1 (sZ (x 34) c (bZ b)))) := by
    rw [hw3, hw2, hw1, hw0]
    exact ((((((((Fr.rf _ _).up (by decide)).up (by decide)).up (by decide)).up (by decide)).up (by decide)).up (by decide)).up (by decide)).up (by decide)
  have q1 : ∀ j, 0 ≤ j → gZ Q1 j = if 44 * c ≤ j ∧ j < 44 * c + (flt C).length then (flt C).getD (j - 44 * c).toNat 0 else gZ (x 28) j := fun j j0 => by
    rw [hQ1, cpl_at (by omega) (by omega) j0, Int.add_zero]
    by_cases hj : 44 * c ≤ j ∧ j < 44 * c + (flt C).length
    · rw [if_pos hj, if_pos hj]
      have := hW.1 (j - 44 * c).toNat (by omega)
      rw [show (((j - 44 * c).toNat : Nat) : Int) = j - 44 * c by omega] at this
      exact this
    · rw [if_neg hj, if_neg hj]
  have q2 : ∀ j, 0 ≤ j → gZ Q2 j = if 7 * c ≤ j ∧ j ≤ 7 * c + C.length then (stC C (j - 7 * c).toNat : Int) else gZ (x 29) j := fun j j0 => by
    rw [hQ2, cpl_at (by omega) (by omega) j0, Int.add_zero]
    by_cases hj : 7 * c ≤ j ∧ j ≤ 7 * c + C.length
    · rw [if_pos (by omega), if_pos hj]
      have := hW.2.1 (j - 7 * c).toNat (by omega)
      rw [show (((j - 7 * c).toNat : Nat) : Int) = j - 7 * c by omega] at this
      exact this
    · rw [if_neg (by omega), if_neg hj]
  have q3 : ∀ j, 0 ≤ j → gZ Q3 j = if 7 * c ≤ j ∧ j < 7 * c + C.length then (lC C (j - 7 * c).toNat).1 else gZ (x 33) j := fun j j0 => by
    rw [hQ3, cpl_at (by omega) (by omega) j0, Int.add_zero]
    by_cases hj : 7 * c ≤ j ∧ j < 7 * c + C.length
    · rw [if_pos hj, if_pos hj]
      have := hW.2.2 (j - 7 * c).toNat (by omega)
      rw [show (((j - 7 * c).toNat : Nat) : Int) = j - 7 * c by omega] at this
      exact this
    · rw [if_neg hj, if_neg hj]
  have R4' := R4
  rw [hm1] at R4'
  refine ⟨_, _, R4', F4, fun j hj => ?_, ⟨hI.1, hI.2.1, fun i => ?_, hI.2.2.2⟩, ⟨⟨?_, nQ2, nQ3, c0, c9, g1, ?_, fun k hk => ?_, fun k hk => ?_⟩, g, fun j hj => ?_⟩, fun a D a0 a1 hD => ?_, fun a a0 => ?_, fun a a0 => ?_, fun a a0 => ?_, Xc.of rfl (by simp [lg_sl, Value.category]) (Gx.run 20 Cs.tt (fun C _ => ?_) (gA _ (Gx.run 20 Cs.tt (fun C _ => ?_) (gB _ (Gx.run 20 Cs.tt (fun C _ => ?_) (gE _ gF)))))) (h.le R4 (fun j hj => ?_))⟩
  · unfold ksA at hj
    simp only [List.mem_cons, List.not_mem_nil, or_false, not_or] at hj
    rw [ux_ne hj.2.2.2.2.2.2.2, ux_ne hj.2.2.2.2.2.1, ux_ne hj.2.2.2.2.1, ux_ne hj.2.2.2.1, ux_ne hj.2.2.2.2.2.2.1, ux_ne hj.2.2.1, ux_ne hj.2.1]
  · show 0 ≤ gZ Q1 i ∧ gZ Q1 i < 100000
    have key : ∀ i, 0 ≤ i → 0 ≤ gZ Q1 i ∧ gZ Q1 i < 100000 := fun i i0 => by
      rw [q1 i i0]
      split
      · next hj =>
        obtain ⟨y, hy, hz⟩ := flt_of (getD_mem (l := flt C) (i := (i - 44 * c).toNat) (by omega))
        have := (g.2.2 y hy).2.2 _ hz
        omega
      · exact hI.2.2.1 i
    by_cases i0 : 0 ≤ i
    · exact key i i0
    · rw [gZ_neg (by omega)]
      exact key 0 (by omega)
  · show (sZ (x 30) c (m 8)).length = 30
    rw [sZ_len]
    exact n30
  · show gZ (sZ (x 30) c (m 8)) c = _
    rw [gZ_sZ c0 (by omega) c0, if_pos rfl]
    exact e8
  · show gZ Q2 (7 * c + k) = _
    rw [q2 _ (by omega), if_pos (by omega), show (7 * c + (k : Int) - 7 * c).toNat = k by omega]
  · show gZ Q3 (7 * c + k) = _ ∧ _
    rw [q3 _ (by omega), if_pos (by omega), show (7 * c + (k : Int) - 7 * c).toNat = k by omega]
    exact ⟨rfl, (g.2.2 _ (lC_mem hk)).1⟩
  · show gZ Q1 (44 * c + j) = _
    rw [q1 _ (by omega), if_pos (by omega), show (44 * c + (j : Int) - 44 * c).toNat = j by omega]
  · obtain ⟨⟨d1, d2, d3, d4, d5, d6, d7, d8, d9⟩, gd, ds⟩ := hD
    have gd2 := gd.2.1
    refine ⟨⟨?_, nQ2, nQ3, d4, d5, d6, ?_, fun k hk => ?_, fun k hk => ?_⟩, gd, fun j hj => ?_⟩
    · show (sZ (x 30) c (m 8)).length = 30
      rw [sZ_len]
      exact n30
    · show gZ (sZ (x 30) c (m 8)) a = _
      rw [gZ_sZ c0 (by omega) a0, if_neg (by omega)]
      exact d7
    · show gZ Q2 (7 * a + k) = _
      rw [q2 _ (by omega), if_neg (by omega)]
      exact d8 k hk
    · show gZ Q3 (7 * a + k) = _ ∧ _
      rw [q3 _ (by omega), if_neg (by omega)]
      exact d9 k hk
    · show gZ Q1 (44 * a + j) = _
      rw [q1 _ (by omega), if_neg (by omega)]
      exact ds j hj
  · show gZ (sZ (x 34) c (bZ b)) a = _
    rw [gZ_sZ c0 (by omega) a0]
    by_cases e : a = c
    · rw [if_pos e.symm, if_pos e]
    · rw [if_neg (fun z => e z.symm), if_neg e]
  · show gZ (sZ (x 31) c deep) a = _
    rw [gZ_sZ c0 (by omega) a0]
    by_cases e : a = c
    · rw [if_pos e.symm, if_pos e]
    · rw [if_neg (fun z => e z.symm), if_neg e]
  · show gZ (sZ (x 32) c nd) a = _
    rw [gZ_sZ c0 (by omega) a0, ← hnd]
    by_cases e : a = c
    · rw [if_pos e.symm, if_pos e]
    · rw [if_neg (fun z => e z.symm), if_neg e]
  · have hm0 := h.1
    rw [hw0, hm1]
    generalize lv_args 0 [.ref 30, .int (iZ (bZ b)), .int (iZ deep), .int (iZ needs)] = lv0 at hc l0 l1 l2 l3 C4 C5
    simp (disch := first | (refine c1_id ?_; assumption) | (refine c1_st rfl ?_; repeat (first | assumption | refine c1_st rfl ?_)) | omega) [nx_l, nx_r, nx_n, x_st, x_push, x_bin, x_div, x_un, x_dup, x_pop, x_dup2, x_goto, x_ifeq, x_ifne, x_iflt, x_ifge, x_ifgt, x_ifle, x_iceq, x_icne, x_iclt, x_icge, x_icgt, x_icle, x_ifnull, x_ifnonnull, x_ldi, x_lda, x_sti, x_sta, x_iinc, x_gf, x_pf, x_ald, x_ast, x_aln, x_len, x_cl_, x_cv, x_cs, x_rc, x_r0, x_isT, x_oi, x_rv, x_ri, x_ra, Value.category, t107_0, t107_1, t107_4, t107_6, t107_7, t107_8, t107_11, t107_12, t107_13, t107_16, t107_17, t107_19, t107_21, t107_22, t107_25, t107_28, t107_29, t107_32, t107_34, t107_36, t107_37, t107_39, t107_40, t107_41, t107_44, t107_46, t107_47, t107_48, t107_51, t107_54, t107_55, t107_57, t107_59, t107_60, t107_63, t107_66, t107_67, t107_70, t107_72, t107_74, t107_75, t107_77, t107_78, t107_79, t107_82, t107_84, t107_85, t107_86, t107_89, t107_92, t107_93, t107_95, t107_97, t107_98, t107_101, t107_104, t107_105, t107_108, t107_110, t107_112, t107_113, t107_115, t107_116, t107_117, t107_120, t107_122, t107_123, t107_124, t107_127, t107_130, t107_131, t107_134, t107_136, t107_137, t107_140, t107_141, t107_142, t107_145, t107_147, t107_148, t107_149, t107_150, t107_153, t107_155, t107_156, t107_157, t107_158, t107_161, t107_163, t107_164, t107_167, t107_168, t107_170, t107_171, t107_174, t107_175, t107_176, t107_178, lk_s, hp_get, hp_set, uH_at, uH_ne, uH_upd, uH_swap, iZ_add, iZ_sub, iZ_mul, iZ_neg, iZ_lt, iZ_le, iZ_eq, iZ_div, iZ_of, ix_Z, gZ_map, gZ_mapI, gZ_map', le_0, le_s, sZ_map, sZ_len, bZ_0, bZ_inj, bZ_t, bZ_f, nr_i, nr_0, nr_1, nr_b, ft_i, ft_b, ft_0, ft_1, zl_0, zl_1, zl_7, zl_44, mF_len, mg_0, mg_1, mg_2, mg_3, mg_4, mg_5, mg_6, mg_7, mg_8, mg_9, mg_10, mg_11, mg_12, mg_13, mg_14, mg_15, mg_16, mg_17, mg_18, mg_19, mg_20, mg_21, mg_22, mg_23, mg_24, mg_25, mg_26, mg_27, mg_28, mg_29, mg_30, mg_31, mg_32, mg_33, mg_34, mg_35, mg_36, mg_37, mg_38, ms_0, ms_1, ms_2, ms_13, ms_14, ms_15, ms_16, ms_21, ms_22, ms_23, ms_24, ms_28, ms_36, ms_37, ms_38, st_at, st_ne, st_st, st_swap, l0, hm0, ec, -List.filter_filter, -List.getElem?_map, -List.getD_eq_getElem?_getD]
  · simp (disch := first | (refine c1_id ?_; assumption) | (refine c1_st rfl ?_; repeat (first | assumption | refine c1_st rfl ?_)) | omega) [nx_l, nx_r, nx_n, x_st, x_push, x_bin, x_div, x_un, x_dup, x_pop, x_dup2, x_goto, x_ifeq, x_ifne, x_iflt, x_ifge, x_ifgt, x_ifle, x_iceq, x_icne, x_iclt, x_icge, x_icgt, x_icle, x_ifnull, x_ifnonnull, x_ldi, x_lda, x_sti, x_sta, x_iinc, x_gf, x_pf, x_ald, x_ast, x_aln, x_len, x_cl_, x_cv, x_cs, x_rc, x_r0, x_isT, x_oi, x_rv, x_ri, x_ra, Value.category, t107_0, t107_1, t107_4, t107_6, t107_7, t107_8, t107_11, t107_12, t107_13, t107_16, t107_17, t107_19, t107_21, t107_22, t107_25, t107_28, t107_29, t107_32, t107_34, t107_36, t107_37, t107_39, t107_40, t107_41, t107_44, t107_46, t107_47, t107_48, t107_51, t107_54, t107_55, t107_57, t107_59, t107_60, t107_63, t107_66, t107_67, t107_70, t107_72, t107_74, t107_75, t107_77, t107_78, t107_79, t107_82, t107_84, t107_85, t107_86, t107_89, t107_92, t107_93, t107_95, t107_97, t107_98, t107_101, t107_104, t107_105, t107_108, t107_110, t107_112, t107_113, t107_115, t107_116, t107_117, t107_120, t107_122, t107_123, t107_124, t107_127, t107_130, t107_131, t107_134, t107_136, t107_137, t107_140, t107_141, t107_142, t107_145, t107_147, t107_148, t107_149, t107_150, t107_153, t107_155, t107_156, t107_157, t107_158, t107_161, t107_163, t107_164, t107_167, t107_168, t107_170, t107_171, t107_174, t107_175, t107_176, t107_178, lk_s, hp_get, hp_set, uH_at, uH_ne, uH_upd, uH_swap, iZ_add, iZ_sub, iZ_mul, iZ_neg, iZ_lt, iZ_le, iZ_eq, iZ_div, iZ_of, ix_Z, gZ_map, gZ_mapI, gZ_map', le_0, le_s, sZ_map, sZ_len, bZ_0, bZ_inj, bZ_t, bZ_f, nr_i, nr_0, nr_1, nr_b, ft_i, ft_b, ft_0, ft_1, zl_0, zl_1, zl_7, zl_44, mF_len, mg_0, mg_1, mg_2, mg_3, mg_4, mg_5, mg_6, mg_7, mg_8, mg_9, mg_10, mg_11, mg_12, mg_13, mg_14, mg_15, mg_16, mg_17, mg_18, mg_19, mg_20, mg_21, mg_22, mg_23, mg_24, mg_25, mg_26, mg_27, mg_28, mg_29, mg_30, mg_31, mg_32, mg_33, mg_34, mg_35, mg_36, mg_37, mg_38, ms_0, ms_1, ms_2, ms_13, ms_14, ms_15, ms_16, ms_21, ms_22, ms_23, ms_24, ms_28, ms_36, ms_37, ms_38, st_at, st_ne, st_st, st_swap, a0, -List.filter_filter, -List.getElem?_map, -List.getD_eq_getElem?_getD]
  · simp (disch := first | (refine c1_id ?_; assumption) | (refine c1_st rfl ?_; repeat (first | assumption | refine c1_st rfl ?_)) | omega) [nx_l, nx_r, nx_n, x_st, x_push, x_bin, x_div, x_un, x_dup, x_pop, x_dup2, x_goto, x_ifeq, x_ifne, x_iflt, x_ifge, x_ifgt, x_ifle, x_iceq, x_icne, x_iclt, x_icge, x_icgt, x_icle, x_ifnull, x_ifnonnull, x_ldi, x_lda, x_sti, x_sta, x_iinc, x_gf, x_pf, x_ald, x_ast, x_aln, x_len, x_cl_, x_cv, x_cs, x_rc, x_r0, x_isT, x_oi, x_rv, x_ri, x_ra, Value.category, t107_0, t107_1, t107_4, t107_6, t107_7, t107_8, t107_11, t107_12, t107_13, t107_16, t107_17, t107_19, t107_21, t107_22, t107_25, t107_28, t107_29, t107_32, t107_34, t107_36, t107_37, t107_39, t107_40, t107_41, t107_44, t107_46, t107_47, t107_48, t107_51, t107_54, t107_55, t107_57, t107_59, t107_60, t107_63, t107_66, t107_67, t107_70, t107_72, t107_74, t107_75, t107_77, t107_78, t107_79, t107_82, t107_84, t107_85, t107_86, t107_89, t107_92, t107_93, t107_95, t107_97, t107_98, t107_101, t107_104, t107_105, t107_108, t107_110, t107_112, t107_113, t107_115, t107_116, t107_117, t107_120, t107_122, t107_123, t107_124, t107_127, t107_130, t107_131, t107_134, t107_136, t107_137, t107_140, t107_141, t107_142, t107_145, t107_147, t107_148, t107_149, t107_150, t107_153, t107_155, t107_156, t107_157, t107_158, t107_161, t107_163, t107_164, t107_167, t107_168, t107_170, t107_171, t107_174, t107_175, t107_176, t107_178, lk_s, hp_get, hp_set, uH_at, uH_ne, uH_upd, uH_swap, iZ_add, iZ_sub, iZ_mul, iZ_neg, iZ_lt, iZ_le, iZ_eq, iZ_div, iZ_of, ix_Z, gZ_map, gZ_mapI, gZ_map', le_0, le_s, sZ_map, sZ_len, bZ_0, bZ_inj, bZ_t, bZ_f, nr_i, nr_0, nr_1, nr_b, ft_i, ft_b, ft_0, ft_1, zl_0, zl_1, zl_7, zl_44, mF_len, mg_0, mg_1, mg_2, mg_3, mg_4, mg_5, mg_6, mg_7, mg_8, mg_9, mg_10, mg_11, mg_12, mg_13, mg_14, mg_15, mg_16, mg_17, mg_18, mg_19, mg_20, mg_21, mg_22, mg_23, mg_24, mg_25, mg_26, mg_27, mg_28, mg_29, mg_30, mg_31, mg_32, mg_33, mg_34, mg_35, mg_36, mg_37, mg_38, ms_0, ms_1, ms_2, ms_13, ms_14, ms_15, ms_16, ms_21, ms_22, ms_23, ms_24, ms_28, ms_36, ms_37, ms_38, st_at, st_ne, st_st, st_swap, b0, -List.filter_filter, -List.getElem?_map, -List.getD_eq_getElem?_getD]
  · rw [F4 j (by
      unfold ksA
      simp only [List.mem_cons, List.not_mem_nil, or_false]
      omega)]
    exact Nat.le_refl _
end AD
