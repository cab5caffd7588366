/-! the reference: the claim is kept, taken, compared -/
theorem f123_0 : x_fetch q_k123 0 = x_lda 1 0 := rfl
theorem t123_0 (C : xF) (s n : Nat) (z : xS) : x_to q_k123 C s (n + 1) 0 z = x_nx q_k123 C s n ((x_lda 1 0) C z) := x_to_at f123_0 C s n z
theorem f123_1 : x_fetch q_k123 1 = x_lda 2 0 := rfl
theorem t123_1 (C : xF) (s n : Nat) (z : xS) : x_to q_k123 C s (n + 1) 1 z = x_nx q_k123 C s n ((x_lda 2 0) C z) := x_to_at f123_1 C s n z
theorem f123_2 : x_fetch q_k123 2 = x_gf 5 8 28 := rfl
theorem t123_2 (C : xF) (s n : Nat) (z : xS) : x_to q_k123 C s (n + 1) 2 z = x_nx q_k123 C s n ((x_gf 5 8 28) C z) := x_to_at f123_2 C s n z
theorem f123_5 : x_fetch q_k123 5 = x_pf 8 8 22 (.int) := rfl
theorem t123_5 (C : xF) (s n : Nat) (z : xS) : x_to q_k123 C s (n + 1) 5 z = x_nx q_k123 C s n ((x_pf 8 8 22 (.int)) C z) := x_to_at f123_5 C s n z
theorem f123_8 : x_fetch q_k123 8 = x_lda 9 0 := rfl
theorem t123_8 (C : xF) (s n : Nat) (z : xS) : x_to q_k123 C s (n + 1) 8 z = x_nx q_k123 C s n ((x_lda 9 0) C z) := x_to_at f123_8 C s n z
theorem f123_9 : x_fetch q_k123 9 = x_lda 10 0 := rfl
theorem t123_9 (C : xF) (s n : Nat) (z : xS) : x_to q_k123 C s (n + 1) 9 z = x_nx q_k123 C s n ((x_lda 10 0) C z) := x_to_at f123_9 C s n z
theorem f123_10 : x_fetch q_k123 10 = x_gf 13 8 26 := rfl
theorem t123_10 (C : xF) (s n : Nat) (z : xS) : x_to q_k123 C s (n + 1) 10 z = x_nx q_k123 C s n ((x_gf 13 8 26) C z) := x_to_at f123_10 C s n z
theorem f123_13 : x_fetch q_k123 13 = x_lda 14 0 := rfl
theorem t123_13 (C : xF) (s n : Nat) (z : xS) : x_to q_k123 C s (n + 1) 13 z = x_nx q_k123 C s n ((x_lda 14 0) C z) := x_to_at f123_13 C s n z
theorem f123_14 : x_fetch q_k123 14 = x_gf 17 8 28 := rfl
theorem t123_14 (C : xF) (s n : Nat) (z : xS) : x_to q_k123 C s (n + 1) 14 z = x_nx q_k123 C s n ((x_gf 17 8 28) C z) := x_to_at f123_14 C s n z
theorem f123_17 : x_fetch q_k123 17 = x_ald 18 0 := rfl
theorem t123_17 (C : xF) (s n : Nat) (z : xS) : x_to q_k123 C s (n + 1) 17 z = x_nx q_k123 C s n ((x_ald 18 0) C z) := x_to_at f123_17 C s n z
theorem f123_18 : x_fetch q_k123 18 = x_pf 21 8 21 (.int) := rfl
theorem t123_18 (C : xF) (s n : Nat) (z : xS) : x_to q_k123 C s (n + 1) 18 z = x_nx q_k123 C s n ((x_pf 21 8 21 (.int)) C z) := x_to_at f123_18 C s n z
theorem f123_21 : x_fetch q_k123 21 = x_st (x_push 22 (.int (0))) := rfl
theorem t123_21 (C : xF) (s n : Nat) (z : xS) : x_to q_k123 C s (n + 1) 21 z = x_nx q_k123 C s n ((x_st (x_push 22 (.int (0)))) C z) := x_to_at f123_21 C s n z
theorem f123_22 : x_fetch q_k123 22 = x_sti 23 1 := rfl
theorem t123_22 (C : xF) (s n : Nat) (z : xS) : x_to q_k123 C s (n + 1) 22 z = x_nx q_k123 C s n ((x_sti 23 1) C z) := x_to_at f123_22 C s n z
theorem f123_23 : x_fetch q_k123 23 = x_ldi 24 1 := rfl
theorem t123_23 (C : xF) (s n : Nat) (z : xS) : x_to q_k123 C s (n + 1) 23 z = x_nx q_k123 C s n ((x_ldi 24 1) C z) := x_to_at f123_23 C s n z
theorem f123_24 : x_fetch q_k123 24 = x_lda 25 0 := rfl
theorem t123_24 (C : xF) (s n : Nat) (z : xS) : x_to q_k123 C s (n + 1) 24 z = x_nx q_k123 C s n ((x_lda 25 0) C z) := x_to_at f123_24 C s n z
theorem f123_25 : x_fetch q_k123 25 = x_gf 28 8 21 := rfl
theorem t123_25 (C : xF) (s n : Nat) (z : xS) : x_to q_k123 C s (n + 1) 25 z = x_nx q_k123 C s n ((x_gf 28 8 21) C z) := x_to_at f123_25 C s n z
theorem f123_28 : x_fetch q_k123 28 = x_st (x_icge 49 31) := rfl
theorem t123_28 (C : xF) (s n : Nat) (z : xS) : x_to q_k123 C s (n + 1) 28 z = x_nx q_k123 C s n ((x_st (x_icge 49 31)) C z) := x_to_at f123_28 C s n z
theorem f123_31 : x_fetch q_k123 31 = x_lda 32 0 := rfl
theorem t123_31 (C : xF) (s n : Nat) (z : xS) : x_to q_k123 C s (n + 1) 31 z = x_nx q_k123 C s n ((x_lda 32 0) C z) := x_to_at f123_31 C s n z
theorem f123_32 : x_fetch q_k123 32 = x_gf 35 8 17 := rfl
theorem t123_32 (C : xF) (s n : Nat) (z : xS) : x_to q_k123 C s (n + 1) 32 z = x_nx q_k123 C s n ((x_gf 35 8 17) C z) := x_to_at f123_32 C s n z
theorem f123_35 : x_fetch q_k123 35 = x_ldi 36 1 := rfl
theorem t123_35 (C : xF) (s n : Nat) (z : xS) : x_to q_k123 C s (n + 1) 35 z = x_nx q_k123 C s n ((x_ldi 36 1) C z) := x_to_at f123_35 C s n z
theorem f123_36 : x_fetch q_k123 36 = x_lda 37 0 := rfl
theorem t123_36 (C : xF) (s n : Nat) (z : xS) : x_to q_k123 C s (n + 1) 36 z = x_nx q_k123 C s n ((x_lda 37 0) C z) := x_to_at f123_36 C s n z
theorem f123_37 : x_fetch q_k123 37 = x_gf 40 8 25 := rfl
theorem t123_37 (C : xF) (s n : Nat) (z : xS) : x_to q_k123 C s (n + 1) 37 z = x_nx q_k123 C s n ((x_gf 40 8 25) C z) := x_to_at f123_37 C s n z
theorem f123_40 : x_fetch q_k123 40 = x_ldi 41 1 := rfl
theorem t123_40 (C : xF) (s n : Nat) (z : xS) : x_to q_k123 C s (n + 1) 40 z = x_nx q_k123 C s n ((x_ldi 41 1) C z) := x_to_at f123_40 C s n z
theorem f123_41 : x_fetch q_k123 41 = x_ald 42 0 := rfl
theorem t123_41 (C : xF) (s n : Nat) (z : xS) : x_to q_k123 C s (n + 1) 41 z = x_nx q_k123 C s n ((x_ald 42 0) C z) := x_to_at f123_41 C s n z
theorem f123_42 : x_fetch q_k123 42 = x_ast 43 0 (fun x => x) := rfl
theorem t123_42 (C : xF) (s n : Nat) (z : xS) : x_to q_k123 C s (n + 1) 42 z = x_nx q_k123 C s n ((x_ast 43 0 (fun x => x)) C z) := x_to_at f123_42 C s n z
theorem f123_43 : x_fetch q_k123 43 = x_iinc 46 1 (1) := rfl
theorem t123_43 (C : xF) (s n : Nat) (z : xS) : x_to q_k123 C s (n + 1) 43 z = x_nx q_k123 C s n ((x_iinc 46 1 (1)) C z) := x_to_at f123_43 C s n z
theorem f123_46 : x_fetch q_k123 46 = x_st (x_goto 23) := rfl
theorem t123_46 (C : xF) (s n : Nat) (z : xS) : x_to q_k123 C s (n + 1) 46 z = x_nx q_k123 C s n ((x_st (x_goto 23)) C z) := x_to_at f123_46 C s n z
theorem f123_49 : x_fetch q_k123 49 = x_st (x_push 50 (.int (0))) := rfl
theorem t123_49 (C : xF) (s n : Nat) (z : xS) : x_to q_k123 C s (n + 1) 49 z = x_nx q_k123 C s n ((x_st (x_push 50 (.int (0)))) C z) := x_to_at f123_49 C s n z
theorem f123_50 : x_fetch q_k123 50 = x_sti 51 1 := rfl
theorem t123_50 (C : xF) (s n : Nat) (z : xS) : x_to q_k123 C s (n + 1) 50 z = x_nx q_k123 C s n ((x_sti 51 1) C z) := x_to_at f123_50 C s n z
theorem f123_51 : x_fetch q_k123 51 = x_ldi 52 1 := rfl
theorem t123_51 (C : xF) (s n : Nat) (z : xS) : x_to q_k123 C s (n + 1) 51 z = x_nx q_k123 C s n ((x_ldi 52 1) C z) := x_to_at f123_51 C s n z
theorem f123_52 : x_fetch q_k123 52 = x_lda 53 0 := rfl
theorem t123_52 (C : xF) (s n : Nat) (z : xS) : x_to q_k123 C s (n + 1) 52 z = x_nx q_k123 C s n ((x_lda 53 0) C z) := x_to_at f123_52 C s n z
theorem f123_53 : x_fetch q_k123 53 = x_gf 56 8 28 := rfl
theorem t123_53 (C : xF) (s n : Nat) (z : xS) : x_to q_k123 C s (n + 1) 53 z = x_nx q_k123 C s n ((x_gf 56 8 28) C z) := x_to_at f123_53 C s n z
theorem f123_56 : x_fetch q_k123 56 = x_st (x_icgt 77 59) := rfl
theorem t123_56 (C : xF) (s n : Nat) (z : xS) : x_to q_k123 C s (n + 1) 56 z = x_nx q_k123 C s n ((x_st (x_icgt 77 59)) C z) := x_to_at f123_56 C s n z
theorem f123_59 : x_fetch q_k123 59 = x_lda 60 0 := rfl
theorem t123_59 (C : xF) (s n : Nat) (z : xS) : x_to q_k123 C s (n + 1) 59 z = x_nx q_k123 C s n ((x_lda 60 0) C z) := x_to_at f123_59 C s n z
theorem f123_60 : x_fetch q_k123 60 = x_gf 63 8 18 := rfl
theorem t123_60 (C : xF) (s n : Nat) (z : xS) : x_to q_k123 C s (n + 1) 60 z = x_nx q_k123 C s n ((x_gf 63 8 18) C z) := x_to_at f123_60 C s n z
theorem f123_63 : x_fetch q_k123 63 = x_ldi 64 1 := rfl
theorem t123_63 (C : xF) (s n : Nat) (z : xS) : x_to q_k123 C s (n + 1) 63 z = x_nx q_k123 C s n ((x_ldi 64 1) C z) := x_to_at f123_63 C s n z
theorem f123_64 : x_fetch q_k123 64 = x_lda 65 0 := rfl
theorem t123_64 (C : xF) (s n : Nat) (z : xS) : x_to q_k123 C s (n + 1) 64 z = x_nx q_k123 C s n ((x_lda 65 0) C z) := x_to_at f123_64 C s n z
theorem f123_65 : x_fetch q_k123 65 = x_gf 68 8 26 := rfl
theorem t123_65 (C : xF) (s n : Nat) (z : xS) : x_to q_k123 C s (n + 1) 65 z = x_nx q_k123 C s n ((x_gf 68 8 26) C z) := x_to_at f123_65 C s n z
theorem f123_68 : x_fetch q_k123 68 = x_ldi 69 1 := rfl
theorem t123_68 (C : xF) (s n : Nat) (z : xS) : x_to q_k123 C s (n + 1) 68 z = x_nx q_k123 C s n ((x_ldi 69 1) C z) := x_to_at f123_68 C s n z
theorem f123_69 : x_fetch q_k123 69 = x_ald 70 0 := rfl
theorem t123_69 (C : xF) (s n : Nat) (z : xS) : x_to q_k123 C s (n + 1) 69 z = x_nx q_k123 C s n ((x_ald 70 0) C z) := x_to_at f123_69 C s n z
theorem f123_70 : x_fetch q_k123 70 = x_ast 71 0 (fun x => x) := rfl
theorem t123_70 (C : xF) (s n : Nat) (z : xS) : x_to q_k123 C s (n + 1) 70 z = x_nx q_k123 C s n ((x_ast 71 0 (fun x => x)) C z) := x_to_at f123_70 C s n z
theorem f123_71 : x_fetch q_k123 71 = x_iinc 74 1 (1) := rfl
theorem t123_71 (C : xF) (s n : Nat) (z : xS) : x_to q_k123 C s (n + 1) 71 z = x_nx q_k123 C s n ((x_iinc 74 1 (1)) C z) := x_to_at f123_71 C s n z
theorem f123_74 : x_fetch q_k123 74 = x_st (x_goto 51) := rfl
theorem t123_74 (C : xF) (s n : Nat) (z : xS) : x_to q_k123 C s (n + 1) 74 z = x_nx q_k123 C s n ((x_st (x_goto 51)) C z) := x_to_at f123_74 C s n z
theorem f123_77 : x_fetch q_k123 77 = x_st (x_push 78 (.int (0))) := rfl
theorem t123_77 (C : xF) (s n : Nat) (z : xS) : x_to q_k123 C s (n + 1) 77 z = x_nx q_k123 C s n ((x_st (x_push 78 (.int (0)))) C z) := x_to_at f123_77 C s n z
theorem f123_78 : x_fetch q_k123 78 = x_sti 79 1 := rfl
theorem t123_78 (C : xF) (s n : Nat) (z : xS) : x_to q_k123 C s (n + 1) 78 z = x_nx q_k123 C s n ((x_sti 79 1) C z) := x_to_at f123_78 C s n z
theorem f123_79 : x_fetch q_k123 79 = x_ldi 80 1 := rfl
theorem t123_79 (C : xF) (s n : Nat) (z : xS) : x_to q_k123 C s (n + 1) 79 z = x_nx q_k123 C s n ((x_ldi 80 1) C z) := x_to_at f123_79 C s n z
theorem f123_80 : x_fetch q_k123 80 = x_lda 81 0 := rfl
theorem t123_80 (C : xF) (s n : Nat) (z : xS) : x_to q_k123 C s (n + 1) 80 z = x_nx q_k123 C s n ((x_lda 81 0) C z) := x_to_at f123_80 C s n z
theorem f123_81 : x_fetch q_k123 81 = x_gf 84 8 28 := rfl
theorem t123_81 (C : xF) (s n : Nat) (z : xS) : x_to q_k123 C s (n + 1) 81 z = x_nx q_k123 C s n ((x_gf 84 8 28) C z) := x_to_at f123_81 C s n z
theorem f123_84 : x_fetch q_k123 84 = x_st (x_icge 105 87) := rfl
theorem t123_84 (C : xF) (s n : Nat) (z : xS) : x_to q_k123 C s (n + 1) 84 z = x_nx q_k123 C s n ((x_st (x_icge 105 87)) C z) := x_to_at f123_84 C s n z
theorem f123_87 : x_fetch q_k123 87 = x_lda 88 0 := rfl
theorem t123_87 (C : xF) (s n : Nat) (z : xS) : x_to q_k123 C s (n + 1) 87 z = x_nx q_k123 C s n ((x_lda 88 0) C z) := x_to_at f123_87 C s n z
theorem f123_88 : x_fetch q_k123 88 = x_gf 91 8 20 := rfl
theorem t123_88 (C : xF) (s n : Nat) (z : xS) : x_to q_k123 C s (n + 1) 88 z = x_nx q_k123 C s n ((x_gf 91 8 20) C z) := x_to_at f123_88 C s n z
theorem f123_91 : x_fetch q_k123 91 = x_ldi 92 1 := rfl
theorem t123_91 (C : xF) (s n : Nat) (z : xS) : x_to q_k123 C s (n + 1) 91 z = x_nx q_k123 C s n ((x_ldi 92 1) C z) := x_to_at f123_91 C s n z
theorem f123_92 : x_fetch q_k123 92 = x_lda 93 0 := rfl
theorem t123_92 (C : xF) (s n : Nat) (z : xS) : x_to q_k123 C s (n + 1) 92 z = x_nx q_k123 C s n ((x_lda 93 0) C z) := x_to_at f123_92 C s n z
theorem f123_93 : x_fetch q_k123 93 = x_gf 96 8 27 := rfl
theorem t123_93 (C : xF) (s n : Nat) (z : xS) : x_to q_k123 C s (n + 1) 93 z = x_nx q_k123 C s n ((x_gf 96 8 27) C z) := x_to_at f123_93 C s n z
theorem f123_96 : x_fetch q_k123 96 = x_ldi 97 1 := rfl
theorem t123_96 (C : xF) (s n : Nat) (z : xS) : x_to q_k123 C s (n + 1) 96 z = x_nx q_k123 C s n ((x_ldi 97 1) C z) := x_to_at f123_96 C s n z
theorem f123_97 : x_fetch q_k123 97 = x_ald 98 1 := rfl
theorem t123_97 (C : xF) (s n : Nat) (z : xS) : x_to q_k123 C s (n + 1) 97 z = x_nx q_k123 C s n ((x_ald 98 1) C z) := x_to_at f123_97 C s n z
theorem f123_98 : x_fetch q_k123 98 = x_ast 99 1 (fun x => vp_nar .boolean x) := rfl
theorem t123_98 (C : xF) (s n : Nat) (z : xS) : x_to q_k123 C s (n + 1) 98 z = x_nx q_k123 C s n ((x_ast 99 1 (fun x => vp_nar .boolean x)) C z) := x_to_at f123_98 C s n z
theorem f123_99 : x_fetch q_k123 99 = x_iinc 102 1 (1) := rfl
theorem t123_99 (C : xF) (s n : Nat) (z : xS) : x_to q_k123 C s (n + 1) 99 z = x_nx q_k123 C s n ((x_iinc 102 1 (1)) C z) := x_to_at f123_99 C s n z
theorem f123_102 : x_fetch q_k123 102 = x_st (x_goto 79) := rfl
theorem t123_102 (C : xF) (s n : Nat) (z : xS) : x_to q_k123 C s (n + 1) 102 z = x_nx q_k123 C s n ((x_st (x_goto 79)) C z) := x_to_at f123_102 C s n z
theorem f123_105 : x_fetch q_k123 105 = x_st (x_push 106 (.int (0))) := rfl
theorem t123_105 (C : xF) (s n : Nat) (z : xS) : x_to q_k123 C s (n + 1) 105 z = x_nx q_k123 C s n ((x_st (x_push 106 (.int (0)))) C z) := x_to_at f123_105 C s n z
theorem f123_106 : x_fetch q_k123 106 = x_sti 107 1 := rfl
theorem t123_106 (C : xF) (s n : Nat) (z : xS) : x_to q_k123 C s (n + 1) 106 z = x_nx q_k123 C s n ((x_sti 107 1) C z) := x_to_at f123_106 C s n z
theorem f123_107 : x_fetch q_k123 107 = x_ldi 108 1 := rfl
theorem t123_107 (C : xF) (s n : Nat) (z : xS) : x_to q_k123 C s (n + 1) 107 z = x_nx q_k123 C s n ((x_ldi 108 1) C z) := x_to_at f123_107 C s n z
theorem f123_108 : x_fetch q_k123 108 = x_st (x_push 110 (.int (26))) := rfl
theorem t123_108 (C : xF) (s n : Nat) (z : xS) : x_to q_k123 C s (n + 1) 108 z = x_nx q_k123 C s n ((x_st (x_push 110 (.int (26)))) C z) := x_to_at f123_108 C s n z
theorem f123_110 : x_fetch q_k123 110 = x_st (x_icge 131 113) := rfl
theorem t123_110 (C : xF) (s n : Nat) (z : xS) : x_to q_k123 C s (n + 1) 110 z = x_nx q_k123 C s n ((x_st (x_icge 131 113)) C z) := x_to_at f123_110 C s n z
theorem f123_113 : x_fetch q_k123 113 = x_lda 114 0 := rfl
theorem t123_113 (C : xF) (s n : Nat) (z : xS) : x_to q_k123 C s (n + 1) 113 z = x_nx q_k123 C s n ((x_lda 114 0) C z) := x_to_at f123_113 C s n z
theorem f123_114 : x_fetch q_k123 114 = x_gf 117 8 10 := rfl
theorem t123_114 (C : xF) (s n : Nat) (z : xS) : x_to q_k123 C s (n + 1) 114 z = x_nx q_k123 C s n ((x_gf 117 8 10) C z) := x_to_at f123_114 C s n z
theorem f123_117 : x_fetch q_k123 117 = x_ldi 118 1 := rfl
theorem t123_117 (C : xF) (s n : Nat) (z : xS) : x_to q_k123 C s (n + 1) 117 z = x_nx q_k123 C s n ((x_ldi 118 1) C z) := x_to_at f123_117 C s n z
theorem f123_118 : x_fetch q_k123 118 = x_lda 119 0 := rfl
theorem t123_118 (C : xF) (s n : Nat) (z : xS) : x_to q_k123 C s (n + 1) 118 z = x_nx q_k123 C s n ((x_lda 119 0) C z) := x_to_at f123_118 C s n z
theorem f123_119 : x_fetch q_k123 119 = x_gf 122 8 11 := rfl
theorem t123_119 (C : xF) (s n : Nat) (z : xS) : x_to q_k123 C s (n + 1) 119 z = x_nx q_k123 C s n ((x_gf 122 8 11) C z) := x_to_at f123_119 C s n z
theorem f123_122 : x_fetch q_k123 122 = x_ldi 123 1 := rfl
theorem t123_122 (C : xF) (s n : Nat) (z : xS) : x_to q_k123 C s (n + 1) 122 z = x_nx q_k123 C s n ((x_ldi 123 1) C z) := x_to_at f123_122 C s n z
theorem f123_123 : x_fetch q_k123 123 = x_ald 124 0 := rfl
theorem t123_123 (C : xF) (s n : Nat) (z : xS) : x_to q_k123 C s (n + 1) 123 z = x_nx q_k123 C s n ((x_ald 124 0) C z) := x_to_at f123_123 C s n z
theorem f123_124 : x_fetch q_k123 124 = x_ast 125 0 (fun x => x) := rfl
theorem t123_124 (C : xF) (s n : Nat) (z : xS) : x_to q_k123 C s (n + 1) 124 z = x_nx q_k123 C s n ((x_ast 125 0 (fun x => x)) C z) := x_to_at f123_124 C s n z
theorem f123_125 : x_fetch q_k123 125 = x_iinc 128 1 (1) := rfl
theorem t123_125 (C : xF) (s n : Nat) (z : xS) : x_to q_k123 C s (n + 1) 125 z = x_nx q_k123 C s n ((x_iinc 128 1 (1)) C z) := x_to_at f123_125 C s n z
theorem f123_128 : x_fetch q_k123 128 = x_st (x_goto 107) := rfl
theorem t123_128 (C : xF) (s n : Nat) (z : xS) : x_to q_k123 C s (n + 1) 128 z = x_nx q_k123 C s n ((x_st (x_goto 107)) C z) := x_to_at f123_128 C s n z
theorem f123_131 : x_fetch q_k123 131 = x_rv := rfl
theorem t123_131 (C : xF) (s n : Nat) (z : xS) : x_to q_k123 C s (n + 1) 131 z = x_nx q_k123 C s n ((x_rv) C z) := x_to_at f123_131 C s n z
theorem f124_0 : x_fetch q_k124 0 = x_lda 1 0 := rfl
theorem t124_0 (C : xF) (s n : Nat) (z : xS) : x_to q_k124 C s (n + 1) 0 z = x_nx q_k124 C s n ((x_lda 1 0) C z) := x_to_at f124_0 C s n z
theorem f124_1 : x_fetch q_k124 1 = x_gf 4 8 22 := rfl
theorem t124_1 (C : xF) (s n : Nat) (z : xS) : x_to q_k124 C s (n + 1) 1 z = x_nx q_k124 C s n ((x_gf 4 8 22) C z) := x_to_at f124_1 C s n z
theorem f124_4 : x_fetch q_k124 4 = x_lda 5 0 := rfl
theorem t124_4 (C : xF) (s n : Nat) (z : xS) : x_to q_k124 C s (n + 1) 4 z = x_nx q_k124 C s n ((x_lda 5 0) C z) := x_to_at f124_4 C s n z
theorem f124_5 : x_fetch q_k124 5 = x_gf 8 8 28 := rfl
theorem t124_5 (C : xF) (s n : Nat) (z : xS) : x_to q_k124 C s (n + 1) 5 z = x_nx q_k124 C s n ((x_gf 8 8 28) C z) := x_to_at f124_5 C s n z
theorem f124_8 : x_fetch q_k124 8 = x_st (x_icne 31 11) := rfl
theorem t124_8 (C : xF) (s n : Nat) (z : xS) : x_to q_k124 C s (n + 1) 8 z = x_nx q_k124 C s n ((x_st (x_icne 31 11)) C z) := x_to_at f124_8 C s n z
theorem f124_11 : x_fetch q_k124 11 = x_lda 12 0 := rfl
theorem t124_11 (C : xF) (s n : Nat) (z : xS) : x_to q_k124 C s (n + 1) 11 z = x_nx q_k124 C s n ((x_lda 12 0) C z) := x_to_at f124_11 C s n z
theorem f124_12 : x_fetch q_k124 12 = x_gf 15 8 21 := rfl
theorem t124_12 (C : xF) (s n : Nat) (z : xS) : x_to q_k124 C s (n + 1) 12 z = x_nx q_k124 C s n ((x_gf 15 8 21) C z) := x_to_at f124_12 C s n z
theorem f124_15 : x_fetch q_k124 15 = x_lda 16 0 := rfl
theorem t124_15 (C : xF) (s n : Nat) (z : xS) : x_to q_k124 C s (n + 1) 15 z = x_nx q_k124 C s n ((x_lda 16 0) C z) := x_to_at f124_15 C s n z
theorem f124_16 : x_fetch q_k124 16 = x_gf 19 8 26 := rfl
theorem t124_16 (C : xF) (s n : Nat) (z : xS) : x_to q_k124 C s (n + 1) 16 z = x_nx q_k124 C s n ((x_gf 19 8 26) C z) := x_to_at f124_16 C s n z
theorem f124_19 : x_fetch q_k124 19 = x_lda 20 0 := rfl
theorem t124_19 (C : xF) (s n : Nat) (z : xS) : x_to q_k124 C s (n + 1) 19 z = x_nx q_k124 C s n ((x_lda 20 0) C z) := x_to_at f124_19 C s n z
theorem f124_20 : x_fetch q_k124 20 = x_gf 23 8 28 := rfl
theorem t124_20 (C : xF) (s n : Nat) (z : xS) : x_to q_k124 C s (n + 1) 20 z = x_nx q_k124 C s n ((x_gf 23 8 28) C z) := x_to_at f124_20 C s n z
theorem f124_23 : x_fetch q_k124 23 = x_ald 24 0 := rfl
theorem t124_23 (C : xF) (s n : Nat) (z : xS) : x_to q_k124 C s (n + 1) 23 z = x_nx q_k124 C s n ((x_ald 24 0) C z) := x_to_at f124_23 C s n z
theorem f124_24 : x_fetch q_k124 24 = x_st (x_icne 31 27) := rfl
theorem t124_24 (C : xF) (s n : Nat) (z : xS) : x_to q_k124 C s (n + 1) 24 z = x_nx q_k124 C s n ((x_st (x_icne 31 27)) C z) := x_to_at f124_24 C s n z
theorem f124_27 : x_fetch q_k124 27 = x_st (x_push 28 (.int (1))) := rfl
theorem t124_27 (C : xF) (s n : Nat) (z : xS) : x_to q_k124 C s (n + 1) 27 z = x_nx q_k124 C s n ((x_st (x_push 28 (.int (1)))) C z) := x_to_at f124_27 C s n z
theorem f124_28 : x_fetch q_k124 28 = x_st (x_goto 32) := rfl
theorem t124_28 (C : xF) (s n : Nat) (z : xS) : x_to q_k124 C s (n + 1) 28 z = x_nx q_k124 C s n ((x_st (x_goto 32)) C z) := x_to_at f124_28 C s n z
theorem f124_31 : x_fetch q_k124 31 = x_st (x_push 32 (.int (0))) := rfl
theorem t124_31 (C : xF) (s n : Nat) (z : xS) : x_to q_k124 C s (n + 1) 31 z = x_nx q_k124 C s n ((x_st (x_push 32 (.int (0)))) C z) := x_to_at f124_31 C s n z
theorem f124_32 : x_fetch q_k124 32 = x_sti 33 1 := rfl
theorem t124_32 (C : xF) (s n : Nat) (z : xS) : x_to q_k124 C s (n + 1) 32 z = x_nx q_k124 C s n ((x_sti 33 1) C z) := x_to_at f124_32 C s n z
theorem f124_33 : x_fetch q_k124 33 = x_st (x_push 34 (.int (0))) := rfl
theorem t124_33 (C : xF) (s n : Nat) (z : xS) : x_to q_k124 C s (n + 1) 33 z = x_nx q_k124 C s n ((x_st (x_push 34 (.int (0)))) C z) := x_to_at f124_33 C s n z
theorem f124_34 : x_fetch q_k124 34 = x_sti 35 2 := rfl
theorem t124_34 (C : xF) (s n : Nat) (z : xS) : x_to q_k124 C s (n + 1) 34 z = x_nx q_k124 C s n ((x_sti 35 2) C z) := x_to_at f124_34 C s n z
theorem f124_35 : x_fetch q_k124 35 = x_ldi 36 2 := rfl
theorem t124_35 (C : xF) (s n : Nat) (z : xS) : x_to q_k124 C s (n + 1) 35 z = x_nx q_k124 C s n ((x_ldi 36 2) C z) := x_to_at f124_35 C s n z
theorem f124_36 : x_fetch q_k124 36 = x_lda 37 0 := rfl
theorem t124_36 (C : xF) (s n : Nat) (z : xS) : x_to q_k124 C s (n + 1) 36 z = x_nx q_k124 C s n ((x_lda 37 0) C z) := x_to_at f124_36 C s n z
theorem f124_37 : x_fetch q_k124 37 = x_gf 40 8 22 := rfl
theorem t124_37 (C : xF) (s n : Nat) (z : xS) : x_to q_k124 C s (n + 1) 37 z = x_nx q_k124 C s n ((x_gf 40 8 22) C z) := x_to_at f124_37 C s n z
theorem f124_40 : x_fetch q_k124 40 = x_st (x_icge 89 43) := rfl
theorem t124_40 (C : xF) (s n : Nat) (z : xS) : x_to q_k124 C s (n + 1) 40 z = x_nx q_k124 C s n ((x_st (x_icge 89 43)) C z) := x_to_at f124_40 C s n z
theorem f124_43 : x_fetch q_k124 43 = x_ldi 44 1 := rfl
theorem t124_43 (C : xF) (s n : Nat) (z : xS) : x_to q_k124 C s (n + 1) 43 z = x_nx q_k124 C s n ((x_ldi 44 1) C z) := x_to_at f124_43 C s n z
theorem f124_44 : x_fetch q_k124 44 = x_st (x_ifeq 89 47) := rfl
theorem t124_44 (C : xF) (s n : Nat) (z : xS) : x_to q_k124 C s (n + 1) 44 z = x_nx q_k124 C s n ((x_st (x_ifeq 89 47)) C z) := x_to_at f124_44 C s n z
theorem f124_47 : x_fetch q_k124 47 = x_lda 48 0 := rfl
theorem t124_47 (C : xF) (s n : Nat) (z : xS) : x_to q_k124 C s (n + 1) 47 z = x_nx q_k124 C s n ((x_lda 48 0) C z) := x_to_at f124_47 C s n z
theorem f124_48 : x_fetch q_k124 48 = x_gf 51 8 20 := rfl
theorem t124_48 (C : xF) (s n : Nat) (z : xS) : x_to q_k124 C s (n + 1) 48 z = x_nx q_k124 C s n ((x_gf 51 8 20) C z) := x_to_at f124_48 C s n z
theorem f124_51 : x_fetch q_k124 51 = x_ldi 52 2 := rfl
theorem t124_51 (C : xF) (s n : Nat) (z : xS) : x_to q_k124 C s (n + 1) 51 z = x_nx q_k124 C s n ((x_ldi 52 2) C z) := x_to_at f124_51 C s n z
theorem f124_52 : x_fetch q_k124 52 = x_ald 53 1 := rfl
theorem t124_52 (C : xF) (s n : Nat) (z : xS) : x_to q_k124 C s (n + 1) 52 z = x_nx q_k124 C s n ((x_ald 53 1) C z) := x_to_at f124_52 C s n z
theorem f124_53 : x_fetch q_k124 53 = x_lda 54 0 := rfl
theorem t124_53 (C : xF) (s n : Nat) (z : xS) : x_to q_k124 C s (n + 1) 53 z = x_nx q_k124 C s n ((x_lda 54 0) C z) := x_to_at f124_53 C s n z
theorem f124_54 : x_fetch q_k124 54 = x_gf 57 8 27 := rfl
theorem t124_54 (C : xF) (s n : Nat) (z : xS) : x_to q_k124 C s (n + 1) 54 z = x_nx q_k124 C s n ((x_gf 57 8 27) C z) := x_to_at f124_54 C s n z
theorem f124_57 : x_fetch q_k124 57 = x_ldi 58 2 := rfl
theorem t124_57 (C : xF) (s n : Nat) (z : xS) : x_to q_k124 C s (n + 1) 57 z = x_nx q_k124 C s n ((x_ldi 58 2) C z) := x_to_at f124_57 C s n z
theorem f124_58 : x_fetch q_k124 58 = x_ald 59 1 := rfl
theorem t124_58 (C : xF) (s n : Nat) (z : xS) : x_to q_k124 C s (n + 1) 58 z = x_nx q_k124 C s n ((x_ald 59 1) C z) := x_to_at f124_58 C s n z
theorem f124_59 : x_fetch q_k124 59 = x_st (x_icne 81 62) := rfl
theorem t124_59 (C : xF) (s n : Nat) (z : xS) : x_to q_k124 C s (n + 1) 59 z = x_nx q_k124 C s n ((x_st (x_icne 81 62)) C z) := x_to_at f124_59 C s n z
theorem f124_62 : x_fetch q_k124 62 = x_lda 63 0 := rfl
theorem t124_62 (C : xF) (s n : Nat) (z : xS) : x_to q_k124 C s (n + 1) 62 z = x_nx q_k124 C s n ((x_lda 63 0) C z) := x_to_at f124_62 C s n z
theorem f124_63 : x_fetch q_k124 63 = x_gf 66 8 18 := rfl
theorem t124_63 (C : xF) (s n : Nat) (z : xS) : x_to q_k124 C s (n + 1) 63 z = x_nx q_k124 C s n ((x_gf 66 8 18) C z) := x_to_at f124_63 C s n z
theorem f124_66 : x_fetch q_k124 66 = x_ldi 67 2 := rfl
theorem t124_66 (C : xF) (s n : Nat) (z : xS) : x_to q_k124 C s (n + 1) 66 z = x_nx q_k124 C s n ((x_ldi 67 2) C z) := x_to_at f124_66 C s n z
theorem f124_67 : x_fetch q_k124 67 = x_ald 68 0 := rfl
theorem t124_67 (C : xF) (s n : Nat) (z : xS) : x_to q_k124 C s (n + 1) 67 z = x_nx q_k124 C s n ((x_ald 68 0) C z) := x_to_at f124_67 C s n z
theorem f124_68 : x_fetch q_k124 68 = x_lda 69 0 := rfl
theorem t124_68 (C : xF) (s n : Nat) (z : xS) : x_to q_k124 C s (n + 1) 68 z = x_nx q_k124 C s n ((x_lda 69 0) C z) := x_to_at f124_68 C s n z
theorem f124_69 : x_fetch q_k124 69 = x_gf 72 8 26 := rfl
theorem t124_69 (C : xF) (s n : Nat) (z : xS) : x_to q_k124 C s (n + 1) 69 z = x_nx q_k124 C s n ((x_gf 72 8 26) C z) := x_to_at f124_69 C s n z
theorem f124_72 : x_fetch q_k124 72 = x_ldi 73 2 := rfl
theorem t124_72 (C : xF) (s n : Nat) (z : xS) : x_to q_k124 C s (n + 1) 72 z = x_nx q_k124 C s n ((x_ldi 73 2) C z) := x_to_at f124_72 C s n z
theorem f124_73 : x_fetch q_k124 73 = x_ald 74 0 := rfl
theorem t124_73 (C : xF) (s n : Nat) (z : xS) : x_to q_k124 C s (n + 1) 73 z = x_nx q_k124 C s n ((x_ald 74 0) C z) := x_to_at f124_73 C s n z
theorem f124_74 : x_fetch q_k124 74 = x_st (x_icne 81 77) := rfl
theorem t124_74 (C : xF) (s n : Nat) (z : xS) : x_to q_k124 C s (n + 1) 74 z = x_nx q_k124 C s n ((x_st (x_icne 81 77)) C z) := x_to_at f124_74 C s n z
theorem f124_77 : x_fetch q_k124 77 = x_st (x_push 78 (.int (1))) := rfl
theorem t124_77 (C : xF) (s n : Nat) (z : xS) : x_to q_k124 C s (n + 1) 77 z = x_nx q_k124 C s n ((x_st (x_push 78 (.int (1)))) C z) := x_to_at f124_77 C s n z
theorem f124_78 : x_fetch q_k124 78 = x_st (x_goto 82) := rfl
theorem t124_78 (C : xF) (s n : Nat) (z : xS) : x_to q_k124 C s (n + 1) 78 z = x_nx q_k124 C s n ((x_st (x_goto 82)) C z) := x_to_at f124_78 C s n z
theorem f124_81 : x_fetch q_k124 81 = x_st (x_push 82 (.int (0))) := rfl
theorem t124_81 (C : xF) (s n : Nat) (z : xS) : x_to q_k124 C s (n + 1) 81 z = x_nx q_k124 C s n ((x_st (x_push 82 (.int (0)))) C z) := x_to_at f124_81 C s n z
theorem f124_82 : x_fetch q_k124 82 = x_sti 83 1 := rfl
theorem t124_82 (C : xF) (s n : Nat) (z : xS) : x_to q_k124 C s (n + 1) 82 z = x_nx q_k124 C s n ((x_sti 83 1) C z) := x_to_at f124_82 C s n z
theorem f124_83 : x_fetch q_k124 83 = x_iinc 86 2 (1) := rfl
theorem t124_83 (C : xF) (s n : Nat) (z : xS) : x_to q_k124 C s (n + 1) 83 z = x_nx q_k124 C s n ((x_iinc 86 2 (1)) C z) := x_to_at f124_83 C s n z
theorem f124_86 : x_fetch q_k124 86 = x_st (x_goto 35) := rfl
theorem t124_86 (C : xF) (s n : Nat) (z : xS) : x_to q_k124 C s (n + 1) 86 z = x_nx q_k124 C s n ((x_st (x_goto 35)) C z) := x_to_at f124_86 C s n z
theorem f124_89 : x_fetch q_k124 89 = x_st (x_push 90 (.int (0))) := rfl
theorem t124_89 (C : xF) (s n : Nat) (z : xS) : x_to q_k124 C s (n + 1) 89 z = x_nx q_k124 C s n ((x_st (x_push 90 (.int (0)))) C z) := x_to_at f124_89 C s n z
theorem f124_90 : x_fetch q_k124 90 = x_sti 91 2 := rfl
theorem t124_90 (C : xF) (s n : Nat) (z : xS) : x_to q_k124 C s (n + 1) 90 z = x_nx q_k124 C s n ((x_sti 91 2) C z) := x_to_at f124_90 C s n z
theorem f124_91 : x_fetch q_k124 91 = x_ldi 92 2 := rfl
theorem t124_91 (C : xF) (s n : Nat) (z : xS) : x_to q_k124 C s (n + 1) 91 z = x_nx q_k124 C s n ((x_ldi 92 2) C z) := x_to_at f124_91 C s n z
theorem f124_92 : x_fetch q_k124 92 = x_lda 93 0 := rfl
theorem t124_92 (C : xF) (s n : Nat) (z : xS) : x_to q_k124 C s (n + 1) 92 z = x_nx q_k124 C s n ((x_lda 93 0) C z) := x_to_at f124_92 C s n z
theorem f124_93 : x_fetch q_k124 93 = x_gf 96 8 21 := rfl
theorem t124_93 (C : xF) (s n : Nat) (z : xS) : x_to q_k124 C s (n + 1) 93 z = x_nx q_k124 C s n ((x_gf 96 8 21) C z) := x_to_at f124_93 C s n z
theorem f124_96 : x_fetch q_k124 96 = x_st (x_icge 130 99) := rfl
theorem t124_96 (C : xF) (s n : Nat) (z : xS) : x_to q_k124 C s (n + 1) 96 z = x_nx q_k124 C s n ((x_st (x_icge 130 99)) C z) := x_to_at f124_96 C s n z
theorem f124_99 : x_fetch q_k124 99 = x_ldi 100 1 := rfl
theorem t124_99 (C : xF) (s n : Nat) (z : xS) : x_to q_k124 C s (n + 1) 99 z = x_nx q_k124 C s n ((x_ldi 100 1) C z) := x_to_at f124_99 C s n z
theorem f124_100 : x_fetch q_k124 100 = x_st (x_ifeq 130 103) := rfl
theorem t124_100 (C : xF) (s n : Nat) (z : xS) : x_to q_k124 C s (n + 1) 100 z = x_nx q_k124 C s n ((x_st (x_ifeq 130 103)) C z) := x_to_at f124_100 C s n z
theorem f124_103 : x_fetch q_k124 103 = x_lda 104 0 := rfl
theorem t124_103 (C : xF) (s n : Nat) (z : xS) : x_to q_k124 C s (n + 1) 103 z = x_nx q_k124 C s n ((x_lda 104 0) C z) := x_to_at f124_103 C s n z
theorem f124_104 : x_fetch q_k124 104 = x_gf 107 8 17 := rfl
theorem t124_104 (C : xF) (s n : Nat) (z : xS) : x_to q_k124 C s (n + 1) 104 z = x_nx q_k124 C s n ((x_gf 107 8 17) C z) := x_to_at f124_104 C s n z
theorem f124_107 : x_fetch q_k124 107 = x_ldi 108 2 := rfl
theorem t124_107 (C : xF) (s n : Nat) (z : xS) : x_to q_k124 C s (n + 1) 107 z = x_nx q_k124 C s n ((x_ldi 108 2) C z) := x_to_at f124_107 C s n z
theorem f124_108 : x_fetch q_k124 108 = x_ald 109 0 := rfl
theorem t124_108 (C : xF) (s n : Nat) (z : xS) : x_to q_k124 C s (n + 1) 108 z = x_nx q_k124 C s n ((x_ald 109 0) C z) := x_to_at f124_108 C s n z
theorem f124_109 : x_fetch q_k124 109 = x_lda 110 0 := rfl
theorem t124_109 (C : xF) (s n : Nat) (z : xS) : x_to q_k124 C s (n + 1) 109 z = x_nx q_k124 C s n ((x_lda 110 0) C z) := x_to_at f124_109 C s n z
theorem f124_110 : x_fetch q_k124 110 = x_gf 113 8 25 := rfl
theorem t124_110 (C : xF) (s n : Nat) (z : xS) : x_to q_k124 C s (n + 1) 110 z = x_nx q_k124 C s n ((x_gf 113 8 25) C z) := x_to_at f124_110 C s n z
theorem f124_113 : x_fetch q_k124 113 = x_ldi 114 2 := rfl
theorem t124_113 (C : xF) (s n : Nat) (z : xS) : x_to q_k124 C s (n + 1) 113 z = x_nx q_k124 C s n ((x_ldi 114 2) C z) := x_to_at f124_113 C s n z
theorem f124_114 : x_fetch q_k124 114 = x_ald 115 0 := rfl
theorem t124_114 (C : xF) (s n : Nat) (z : xS) : x_to q_k124 C s (n + 1) 114 z = x_nx q_k124 C s n ((x_ald 115 0) C z) := x_to_at f124_114 C s n z
theorem f124_115 : x_fetch q_k124 115 = x_st (x_icne 122 118) := rfl
theorem t124_115 (C : xF) (s n : Nat) (z : xS) : x_to q_k124 C s (n + 1) 115 z = x_nx q_k124 C s n ((x_st (x_icne 122 118)) C z) := x_to_at f124_115 C s n z
theorem f124_118 : x_fetch q_k124 118 = x_st (x_push 119 (.int (1))) := rfl
theorem t124_118 (C : xF) (s n : Nat) (z : xS) : x_to q_k124 C s (n + 1) 118 z = x_nx q_k124 C s n ((x_st (x_push 119 (.int (1)))) C z) := x_to_at f124_118 C s n z
theorem f124_119 : x_fetch q_k124 119 = x_st (x_goto 123) := rfl
theorem t124_119 (C : xF) (s n : Nat) (z : xS) : x_to q_k124 C s (n + 1) 119 z = x_nx q_k124 C s n ((x_st (x_goto 123)) C z) := x_to_at f124_119 C s n z
theorem f124_122 : x_fetch q_k124 122 = x_st (x_push 123 (.int (0))) := rfl
theorem t124_122 (C : xF) (s n : Nat) (z : xS) : x_to q_k124 C s (n + 1) 122 z = x_nx q_k124 C s n ((x_st (x_push 123 (.int (0)))) C z) := x_to_at f124_122 C s n z
theorem f124_123 : x_fetch q_k124 123 = x_sti 124 1 := rfl
theorem t124_123 (C : xF) (s n : Nat) (z : xS) : x_to q_k124 C s (n + 1) 123 z = x_nx q_k124 C s n ((x_sti 124 1) C z) := x_to_at f124_123 C s n z
theorem f124_124 : x_fetch q_k124 124 = x_iinc 127 2 (1) := rfl
theorem t124_124 (C : xF) (s n : Nat) (z : xS) : x_to q_k124 C s (n + 1) 124 z = x_nx q_k124 C s n ((x_iinc 127 2 (1)) C z) := x_to_at f124_124 C s n z
theorem f124_127 : x_fetch q_k124 127 = x_st (x_goto 91) := rfl
theorem t124_127 (C : xF) (s n : Nat) (z : xS) : x_to q_k124 C s (n + 1) 127 z = x_nx q_k124 C s n ((x_st (x_goto 91)) C z) := x_to_at f124_127 C s n z
theorem f124_130 : x_fetch q_k124 130 = x_ldi 131 1 := rfl
theorem t124_130 (C : xF) (s n : Nat) (z : xS) : x_to q_k124 C s (n + 1) 130 z = x_nx q_k124 C s n ((x_ldi 131 1) C z) := x_to_at f124_130 C s n z
theorem f124_131 : x_fetch q_k124 131 = x_ri (.boolean) := rfl
theorem t124_131 (C : xF) (s n : Nat) (z : xS) : x_to q_k124 C s (n + 1) 131 z = x_nx q_k124 C s n ((x_ri (.boolean)) C z) := x_to_at f124_131 C s n z
section CL
variable {w : Nat → xC} {N : Nat} {m : Nat → Int} {x : Nat → List Int} {S T U R Sa Mi : List Int} {C E : List (Int × List Int)}
theorem L122_14 (d : Nat) (hN : 53 ≤ N) (hm : w 27 = .inr (8, mF m)) (hs : w 38 = cI 0 S) (hS : S.length = 600) (hb : m 7 ≤ 60) (hb0 : 0 ≤ m 7) : ∀ (r : Nat) (k : Int) (Q : List Int) (lv : xL), Q.length = 60 → k + r = m 7 → 0 ≤ k → c1 lv → x_lk lv 0 = some (.ref 30) → x_lk lv 1 = some (.int (iZ k)) → ∃ lv', c1 lv' ∧ (∀ j, j ≠ 1 → x_lk lv' j = x_lk lv j) ∧ ∀ res, Gx q_k122 d 40 (lv', [], hp (uH w 42 (cI 0 (cpl (0) (fun k => gZ S k) r k Q))) N) res →
    Gx q_k122 d 14 (lv, [], hp (uH w 42 (cI 0 Q)) N) res := by
  intro r
  induction r with
  | zero =>
    intro k Q lv hQ hk h0 hc l0 l1 
    refine ⟨lv, hc, fun _ _ => rfl, fun res hcont => ?_⟩
    refine Gx.run 60 Cs.tt (fun C _ => ?_) hcont
    have b1 : m 7 ≤ k := by omega
    simp (disch := first | (refine c1_id ?_; assumption) | (refine c1_st rfl ?_; repeat (first | assumption | refine c1_st rfl ?_)) | omega) [nx_l, nx_r, nx_n, x_st, x_push, x_bin, x_div, x_un, x_dup, x_pop, x_dup2, x_goto, x_ifeq, x_ifne, x_iflt, x_ifge, x_ifgt, x_ifle, x_iceq, x_icne, x_iclt, x_icge, x_icgt, x_icle, x_ifnull, x_ifnonnull, x_ldi, x_lda, x_sti, x_sta, x_iinc, x_gf, x_pf, x_ald, x_ast, x_aln, x_len, x_cl_, x_cv, x_cs, x_rc, x_r0, x_isT, x_oi, x_rv, x_ri, x_ra, Value.category, t122_0, t122_1, t122_4, t122_5, t122_6, t122_9, t122_12, t122_13, t122_14, t122_15, t122_16, t122_19, t122_22, t122_23, t122_26, t122_27, t122_28, t122_31, t122_32, t122_33, t122_34, t122_37, t122_40, t122_41, t122_42, t122_43, t122_44, t122_47, t122_50, t122_51, t122_54, t122_55, t122_56, t122_59, t122_60, t122_61, t122_62, t122_65, t122_68, t122_69, t122_70, t122_71, t122_72, t122_75, t122_78, t122_79, t122_82, t122_83, t122_84, t122_87, t122_88, t122_89, t122_90, t122_93, t122_96, lk_s, hp_get, hp_set, uH_at, uH_ne, uH_upd, uH_swap, iZ_add, iZ_sub, iZ_mul, iZ_neg, iZ_lt, iZ_le, iZ_eq, iZ_div, iZ_of, ix_Z, gZ_map, gZ_mapI, gZ_map', le_0, le_s, sZ_map, sZ_len, bZ_0, bZ_inj, bZ_t, bZ_f, nr_i, nr_0, nr_1, nr_b, ft_i, ft_b, ft_0, ft_1, zl_0, zl_1, mF_len, mg_0, mg_1, mg_2, mg_3, mg_4, mg_5, mg_6, mg_7, mg_8, mg_9, mg_10, mg_11, mg_12, mg_13, mg_14, mg_15, mg_16, mg_17, mg_18, mg_19, mg_20, mg_21, mg_22, mg_23, mg_24, mg_25, mg_26, mg_27, mg_28, mg_29, mg_30, mg_31, mg_32, mg_33, mg_34, mg_35, mg_36, mg_37, mg_38, ms_0, ms_1, ms_2, ms_13, ms_14, ms_15, ms_16, ms_21, ms_22, ms_23, ms_24, ms_28, ms_36, ms_37, ms_38, st_at, st_ne, st_st, st_swap, l0, l1, hm, hs, b1, cpl, -List.filter_filter, -List.getElem?_map, -List.getD_eq_getElem?_getD]
  | succ r ih =>
    intro k Q lv hQ hk h0 hc l0 l1 
    obtain ⟨lv', h1, h2, h3⟩ := ih (k + 1) (sZ Q (0 + k) ((fun k => gZ S k) k)) (((1 : Nat), .int (iZ (k + 1))) :: List.filter (x_keep 1) lv) (by rw [sZ_len]; exact hQ) (by omega) (by omega) (c1_st rfl hc) (by rw [lk_s hc]; exact l0) (by rw [lk_s hc]; rfl) 
    refine ⟨lv', h1, fun j hj => by rw [h2 j hj, lk_s hc, if_neg (Ne.symm hj)], fun res hcont => ?_⟩
    refine Gx.run 60 Cs.tt (fun C _ => ?_) (h3 res hcont)
    have b1 : ¬ m 7 ≤ k := by omega
    simp (disch := first | (refine c1_id ?_; assumption) | (refine c1_st rfl ?_; repeat (first | assumption | refine c1_st rfl ?_)) | omega) [nx_l, nx_r, nx_n, x_st, x_push, x_bin, x_div, x_un, x_dup, x_pop, x_dup2, x_goto, x_ifeq, x_ifne, x_iflt, x_ifge, x_ifgt, x_ifle, x_iceq, x_icne, x_iclt, x_icge, x_icgt, x_icle, x_ifnull, x_ifnonnull, x_ldi, x_lda, x_sti, x_sta, x_iinc, x_gf, x_pf, x_ald, x_ast, x_aln, x_len, x_cl_, x_cv, x_cs, x_rc, x_r0, x_isT, x_oi, x_rv, x_ri, x_ra, Value.category, t122_0, t122_1, t122_4, t122_5, t122_6, t122_9, t122_12, t122_13, t122_14, t122_15, t122_16, t122_19, t122_22, t122_23, t122_26, t122_27, t122_28, t122_31, t122_32, t122_33, t122_34, t122_37, t122_40, t122_41, t122_42, t122_43, t122_44, t122_47, t122_50, t122_51, t122_54, t122_55, t122_56, t122_59, t122_60, t122_61, t122_62, t122_65, t122_68, t122_69, t122_70, t122_71, t122_72, t122_75, t122_78, t122_79, t122_82, t122_83, t122_84, t122_87, t122_88, t122_89, t122_90, t122_93, t122_96, lk_s, hp_get, hp_set, uH_at, uH_ne, uH_upd, uH_swap, iZ_add, iZ_sub, iZ_mul, iZ_neg, iZ_lt, iZ_le, iZ_eq, iZ_div, iZ_of, ix_Z, gZ_map, gZ_mapI, gZ_map', le_0, le_s, sZ_map, sZ_len, bZ_0, bZ_inj, bZ_t, bZ_f, nr_i, nr_0, nr_1, nr_b, ft_i, ft_b, ft_0, ft_1, zl_0, zl_1, mF_len, mg_0, mg_1, mg_2, mg_3, mg_4, mg_5, mg_6, mg_7, mg_8, mg_9, mg_10, mg_11, mg_12, mg_13, mg_14, mg_15, mg_16, mg_17, mg_18, mg_19, mg_20, mg_21, mg_22, mg_23, mg_24, mg_25, mg_26, mg_27, mg_28, mg_29, mg_30, mg_31, mg_32, mg_33, mg_34, mg_35, mg_36, mg_37, mg_38, ms_0, ms_1, ms_2, ms_13, ms_14, ms_15, ms_16, ms_21, ms_22, ms_23, ms_24, ms_28, ms_36, ms_37, ms_38, st_at, st_ne, st_st, st_swap, l0, l1, hm, hs, b1, -List.filter_filter, -List.getElem?_map, -List.getD_eq_getElem?_getD]
theorem L122_42 (d : Nat) (hN : 53 ≤ N) (hm : w 27 = .inr (8, mF m)) (hs : w 39 = cI 0 S) (hS : S.length = 14) (hb : m 8 ≤ 7) (hb0 : 0 ≤ m 8) : ∀ (r : Nat) (k : Int) (Q : List Int) (lv : xL), Q.length = 8 → k + r = m 8 + 1 → 0 ≤ k → c1 lv → x_lk lv 0 = some (.ref 30) → x_lk lv 1 = some (.int (iZ k)) → ∃ lv', c1 lv' ∧ (∀ j, j ≠ 1 → x_lk lv' j = x_lk lv j) ∧ ∀ res, Gx q_k122 d 68 (lv', [], hp (uH w 43 (cI 0 (cpl (0) (fun k => gZ S k) r k Q))) N) res →
    Gx q_k122 d 42 (lv, [], hp (uH w 43 (cI 0 Q)) N) res := by
  intro r
  induction r with
  | zero =>
    intro k Q lv hQ hk h0 hc l0 l1 
    refine ⟨lv, hc, fun _ _ => rfl, fun res hcont => ?_⟩
    refine Gx.run 60 Cs.tt (fun C _ => ?_) hcont
    have b1 : m 8 < k := by omega
    simp (disch := first | (refine c1_id ?_; assumption) | (refine c1_st rfl ?_; repeat (first | assumption | refine c1_st rfl ?_)) | omega) [nx_l, nx_r, nx_n, x_st, x_push, x_bin, x_div, x_un, x_dup, x_pop, x_dup2, x_goto, x_ifeq, x_ifne, x_iflt, x_ifge, x_ifgt, x_ifle, x_iceq, x_icne, x_iclt, x_icge, x_icgt, x_icle, x_ifnull, x_ifnonnull, x_ldi, x_lda, x_sti, x_sta, x_iinc, x_gf, x_pf, x_ald, x_ast, x_aln, x_len, x_cl_, x_cv, x_cs, x_rc, x_r0, x_isT, x_oi, x_rv, x_ri, x_ra, Value.category, t122_0, t122_1, t122_4, t122_5, t122_6, t122_9, t122_12, t122_13, t122_14, t122_15, t122_16, t122_19, t122_22, t122_23, t122_26, t122_27, t122_28, t122_31, t122_32, t122_33, t122_34, t122_37, t122_40, t122_41, t122_42, t122_43, t122_44, t122_47, t122_50, t122_51, t122_54, t122_55, t122_56, t122_59, t122_60, t122_61, t122_62, t122_65, t122_68, t122_69, t122_70, t122_71, t122_72, t122_75, t122_78, t122_79, t122_82, t122_83, t122_84, t122_87, t122_88, t122_89, t122_90, t122_93, t122_96, lk_s, hp_get, hp_set, uH_at, uH_ne, uH_upd, uH_swap, iZ_add, iZ_sub, iZ_mul, iZ_neg, iZ_lt, iZ_le, iZ_eq, iZ_div, iZ_of, ix_Z, gZ_map, gZ_mapI, gZ_map', le_0, le_s, sZ_map, sZ_len, bZ_0, bZ_inj, bZ_t, bZ_f, nr_i, nr_0, nr_1, nr_b, ft_i, ft_b, ft_0, ft_1, zl_0, zl_1, mF_len, mg_0, mg_1, mg_2, mg_3, mg_4, mg_5, mg_6, mg_7, mg_8, mg_9, mg_10, mg_11, mg_12, mg_13, mg_14, mg_15, mg_16, mg_17, mg_18, mg_19, mg_20, mg_21, mg_22, mg_23, mg_24, mg_25, mg_26, mg_27, mg_28, mg_29, mg_30, mg_31, mg_32, mg_33, mg_34, mg_35, mg_36, mg_37, mg_38, ms_0, ms_1, ms_2, ms_13, ms_14, ms_15, ms_16, ms_21, ms_22, ms_23, ms_24, ms_28, ms_36, ms_37, ms_38, st_at, st_ne, st_st, st_swap, l0, l1, hm, hs, b1, cpl, -List.filter_filter, -List.getElem?_map, -List.getD_eq_getElem?_getD]
  | succ r ih =>
    intro k Q lv hQ hk h0 hc l0 l1 
    obtain ⟨lv', h1, h2, h3⟩ := ih (k + 1) (sZ Q (0 + k) ((fun k => gZ S k) k)) (((1 : Nat), .int (iZ (k + 1))) :: List.filter (x_keep 1) lv) (by rw [sZ_len]; exact hQ) (by omega) (by omega) (c1_st rfl hc) (by rw [lk_s hc]; exact l0) (by rw [lk_s hc]; rfl) 
    refine ⟨lv', h1, fun j hj => by rw [h2 j hj, lk_s hc, if_neg (Ne.symm hj)], fun res hcont => ?_⟩
    refine Gx.run 60 Cs.tt (fun C _ => ?_) (h3 res hcont)
    have b1 : ¬ m 8 < k := by omega
    simp (disch := first | (refine c1_id ?_; assumption) | (refine c1_st rfl ?_; repeat (first | assumption | refine c1_st rfl ?_)) | omega) [nx_l, nx_r, nx_n, x_st, x_push, x_bin, x_div, x_un, x_dup, x_pop, x_dup2, x_goto, x_ifeq, x_ifne, x_iflt, x_ifge, x_ifgt, x_ifle, x_iceq, x_icne, x_iclt, x_icge, x_icgt, x_icle, x_ifnull, x_ifnonnull, x_ldi, x_lda, x_sti, x_sta, x_iinc, x_gf, x_pf, x_ald, x_ast, x_aln, x_len, x_cl_, x_cv, x_cs, x_rc, x_r0, x_isT, x_oi, x_rv, x_ri, x_ra, Value.category, t122_0, t122_1, t122_4, t122_5, t122_6, t122_9, t122_12, t122_13, t122_14, t122_15, t122_16, t122_19, t122_22, t122_23, t122_26, t122_27, t122_28, t122_31, t122_32, t122_33, t122_34, t122_37, t122_40, t122_41, t122_42, t122_43, t122_44, t122_47, t122_50, t122_51, t122_54, t122_55, t122_56, t122_59, t122_60, t122_61, t122_62, t122_65, t122_68, t122_69, t122_70, t122_71, t122_72, t122_75, t122_78, t122_79, t122_82, t122_83, t122_84, t122_87, t122_88, t122_89, t122_90, t122_93, t122_96, lk_s, hp_get, hp_set, uH_at, uH_ne, uH_upd, uH_swap, iZ_add, iZ_sub, iZ_mul, iZ_neg, iZ_lt, iZ_le, iZ_eq, iZ_div, iZ_of, ix_Z, gZ_map, gZ_mapI, gZ_map', le_0, le_s, sZ_map, sZ_len, bZ_0, bZ_inj, bZ_t, bZ_f, nr_i, nr_0, nr_1, nr_b, ft_i, ft_b, ft_0, ft_1, zl_0, zl_1, mF_len, mg_0, mg_1, mg_2, mg_3, mg_4, mg_5, mg_6, mg_7, mg_8, mg_9, mg_10, mg_11, mg_12, mg_13, mg_14, mg_15, mg_16, mg_17, mg_18, mg_19, mg_20, mg_21, mg_22, mg_23, mg_24, mg_25, mg_26, mg_27, mg_28, mg_29, mg_30, mg_31, mg_32, mg_33, mg_34, mg_35, mg_36, mg_37, mg_38, ms_0, ms_1, ms_2, ms_13, ms_14, ms_15, ms_16, ms_21, ms_22, ms_23, ms_24, ms_28, ms_36, ms_37, ms_38, st_at, st_ne, st_st, st_swap, l0, l1, hm, hs, b1, -List.filter_filter, -List.getElem?_map, -List.getD_eq_getElem?_getD]
theorem L122_70 (d : Nat) (hN : 53 ≤ N) (hm : w 27 = .inr (8, mF m)) (hs : w 41 = cI 1 S) (hS : S.length = 14) (hv : ∀ i, vp_nar .boolean (iZ (gZ S i)) = iZ (gZ S i)) (hb : m 8 ≤ 7) (hb0 : 0 ≤ m 8) : ∀ (r : Nat) (k : Int) (Q : List Int) (lv : xL), Q.length = 8 → k + r = m 8 → 0 ≤ k → c1 lv → x_lk lv 0 = some (.ref 30) → x_lk lv 1 = some (.int (iZ k)) → ∃ lv', c1 lv' ∧ (∀ j, j ≠ 1 → x_lk lv' j = x_lk lv j) ∧ ∀ res, Gx q_k122 d 96 (lv', [], hp (uH w 44 (cI 1 (cpl (0) (fun k => gZ S k) r k Q))) N) res →
    Gx q_k122 d 70 (lv, [], hp (uH w 44 (cI 1 Q)) N) res := by
  intro r
  induction r with
  | zero =>
    intro k Q lv hQ hk h0 hc l0 l1 
    refine ⟨lv, hc, fun _ _ => rfl, fun res hcont => ?_⟩
    refine Gx.run 60 Cs.tt (fun C _ => ?_) hcont
    have b1 : m 8 ≤ k := by omega
    simp (disch := first | (refine c1_id ?_; assumption) | (refine c1_st rfl ?_; repeat (first | assumption | refine c1_st rfl ?_)) | omega) [nx_l, nx_r, nx_n, x_st, x_push, x_bin, x_div, x_un, x_dup, x_pop, x_dup2, x_goto, x_ifeq, x_ifne, x_iflt, x_ifge, x_ifgt, x_ifle, x_iceq, x_icne, x_iclt, x_icge, x_icgt, x_icle, x_ifnull, x_ifnonnull, x_ldi, x_lda, x_sti, x_sta, x_iinc, x_gf, x_pf, x_ald, x_ast, x_aln, x_len, x_cl_, x_cv, x_cs, x_rc, x_r0, x_isT, x_oi, x_rv, x_ri, x_ra, Value.category, t122_0, t122_1, t122_4, t122_5, t122_6, t122_9, t122_12, t122_13, t122_14, t122_15, t122_16, t122_19, t122_22, t122_23, t122_26, t122_27, t122_28, t122_31, t122_32, t122_33, t122_34, t122_37, t122_40, t122_41, t122_42, t122_43, t122_44, t122_47, t122_50, t122_51, t122_54, t122_55, t122_56, t122_59, t122_60, t122_61, t122_62, t122_65, t122_68, t122_69, t122_70, t122_71, t122_72, t122_75, t122_78, t122_79, t122_82, t122_83, t122_84, t122_87, t122_88, t122_89, t122_90, t122_93, t122_96, lk_s, hp_get, hp_set, uH_at, uH_ne, uH_upd, uH_swap, iZ_add, iZ_sub, iZ_mul, iZ_neg, iZ_lt, iZ_le, iZ_eq, iZ_div, iZ_of, ix_Z, gZ_map, gZ_mapI, gZ_map', le_0, le_s, sZ_map, sZ_len, bZ_0, bZ_inj, bZ_t, bZ_f, nr_i, nr_0, nr_1, nr_b, ft_i, ft_b, ft_0, ft_1, zl_0, zl_1, mF_len, mg_0, mg_1, mg_2, mg_3, mg_4, mg_5, mg_6, mg_7, mg_8, mg_9, mg_10, mg_11, mg_12, mg_13, mg_14, mg_15, mg_16, mg_17, mg_18, mg_19, mg_20, mg_21, mg_22, mg_23, mg_24, mg_25, mg_26, mg_27, mg_28, mg_29, mg_30, mg_31, mg_32, mg_33, mg_34, mg_35, mg_36, mg_37, mg_38, ms_0, ms_1, ms_2, ms_13, ms_14, ms_15, ms_16, ms_21, ms_22, ms_23, ms_24, ms_28, ms_36, ms_37, ms_38, st_at, st_ne, st_st, st_swap, l0, l1, hm, hs, hv, b1, cpl, -List.filter_filter, -List.getElem?_map, -List.getD_eq_getElem?_getD]
  | succ r ih =>
    intro k Q lv hQ hk h0 hc l0 l1 
    obtain ⟨lv', h1, h2, h3⟩ := ih (k + 1) (sZ Q (0 + k) ((fun k => gZ S k) k)) (((1 : Nat), .int (iZ (k + 1))) :: List.filter (x_keep 1) lv) (by rw [sZ_len]; exact hQ) (by omega) (by omega) (c1_st rfl hc) (by rw [lk_s hc]; exact l0) (by rw [lk_s hc]; rfl) 
    refine ⟨lv', h1, fun j hj => by rw [h2 j hj, lk_s hc, if_neg (Ne.symm hj)], fun res hcont => ?_⟩
    refine Gx.run 60 Cs.tt (fun C _ => ?_) (h3 res hcont)
    have b1 : ¬ m 8 ≤ k := by omega
    simp (disch := first | (refine c1_id ?_; assumption) | (refine c1_st rfl ?_; repeat (first | assumption | refine c1_st rfl ?_)) | omega) [nx_l, nx_r, nx_n, x_st, x_push, x_bin, x_div, x_un, x_dup, x_pop, x_dup2, x_goto, x_ifeq, x_ifne, x_iflt, x_ifge, x_ifgt, x_ifle, x_iceq, x_icne, x_iclt, x_icge, x_icgt, x_icle, x_ifnull, x_ifnonnull, x_ldi, x_lda, x_sti, x_sta, x_iinc, x_gf, x_pf, x_ald, x_ast, x_aln, x_len, x_cl_, x_cv, x_cs, x_rc, x_r0, x_isT, x_oi, x_rv, x_ri, x_ra, Value.category, t122_0, t122_1, t122_4, t122_5, t122_6, t122_9, t122_12, t122_13, t122_14, t122_15, t122_16, t122_19, t122_22, t122_23, t122_26, t122_27, t122_28, t122_31, t122_32, t122_33, t122_34, t122_37, t122_40, t122_41, t122_42, t122_43, t122_44, t122_47, t122_50, t122_51, t122_54, t122_55, t122_56, t122_59, t122_60, t122_61, t122_62, t122_65, t122_68, t122_69, t122_70, t122_71, t122_72, t122_75, t122_78, t122_79, t122_82, t122_83, t122_84, t122_87, t122_88, t122_89, t122_90, t122_93, t122_96, lk_s, hp_get, hp_set, uH_at, uH_ne, uH_upd, uH_swap, iZ_add, iZ_sub, iZ_mul, iZ_neg, iZ_lt, iZ_le, iZ_eq, iZ_div, iZ_of, ix_Z, gZ_map, gZ_mapI, gZ_map', le_0, le_s, sZ_map, sZ_len, bZ_0, bZ_inj, bZ_t, bZ_f, nr_i, nr_0, nr_1, nr_b, ft_i, ft_b, ft_0, ft_1, zl_0, zl_1, mF_len, mg_0, mg_1, mg_2, mg_3, mg_4, mg_5, mg_6, mg_7, mg_8, mg_9, mg_10, mg_11, mg_12, mg_13, mg_14, mg_15, mg_16, mg_17, mg_18, mg_19, mg_20, mg_21, mg_22, mg_23, mg_24, mg_25, mg_26, mg_27, mg_28, mg_29, mg_30, mg_31, mg_32, mg_33, mg_34, mg_35, mg_36, mg_37, mg_38, ms_0, ms_1, ms_2, ms_13, ms_14, ms_15, ms_16, ms_21, ms_22, ms_23, ms_24, ms_28, ms_36, ms_37, ms_38, st_at, st_ne, st_st, st_swap, l0, l1, hm, hs, hv, b1, -List.filter_filter, -List.getElem?_map, -List.getD_eq_getElem?_getD]
theorem L123_23 (d : Nat) (hN : 53 ≤ N) (hm : w 27 = .inr (8, mF m)) (hs : w 42 = cI 0 S) (hS : S.length = 60) (hb : m 7 ≤ 60) (hb0 : 0 ≤ m 7) : ∀ (r : Nat) (k : Int) (Q : List Int) (lv : xL), Q.length = 600 → k + r = m 7 → 0 ≤ k → c1 lv → x_lk lv 0 = some (.ref 30) → x_lk lv 1 = some (.int (iZ k)) → ∃ lv', c1 lv' ∧ (∀ j, j ≠ 1 → x_lk lv' j = x_lk lv j) ∧ ∀ res, Gx q_k123 d 49 (lv', [], hp (uH w 38 (cI 0 (cpl (0) (fun k => gZ S k) r k Q))) N) res →
    Gx q_k123 d 23 (lv, [], hp (uH w 38 (cI 0 Q)) N) res := by
  intro r
  induction r with
  | zero =>
    intro k Q lv hQ hk h0 hc l0 l1 
    refine ⟨lv, hc, fun _ _ => rfl, fun res hcont => ?_⟩
    refine Gx.run 60 Cs.tt (fun C _ => ?_) hcont
    have b1 : m 7 ≤ k := by omega
    simp (disch := first | (refine c1_id ?_; assumption) | (refine c1_st rfl ?_; repeat (first | assumption | refine c1_st rfl ?_)) | omega) [nx_l, nx_r, nx_n, x_st, x_push, x_bin, x_div, x_un, x_dup, x_pop, x_dup2, x_goto, x_ifeq, x_ifne, x_iflt, x_ifge, x_ifgt, x_ifle, x_iceq, x_icne, x_iclt, x_icge, x_icgt, x_icle, x_ifnull, x_ifnonnull, x_ldi, x_lda, x_sti, x_sta, x_iinc, x_gf, x_pf, x_ald, x_ast, x_aln, x_len, x_cl_, x_cv, x_cs, x_rc, x_r0, x_isT, x_oi, x_rv, x_ri, x_ra, Value.category, t123_0, t123_1, t123_2, t123_5, t123_8, t123_9, t123_10, t123_13, t123_14, t123_17, t123_18, t123_21, t123_22, t123_23, t123_24, t123_25, t123_28, t123_31, t123_32, t123_35, t123_36, t123_37, t123_40, t123_41, t123_42, t123_43, t123_46, t123_49, t123_50, t123_51, t123_52, t123_53, t123_56, t123_59, t123_60, t123_63, t123_64, t123_65, t123_68, t123_69, t123_70, t123_71, t123_74, t123_77, t123_78, t123_79, t123_80, t123_81, t123_84, t123_87, t123_88, t123_91, t123_92, t123_93, t123_96, t123_97, t123_98, t123_99, t123_102, t123_105, t123_106, t123_107, t123_108, t123_110, t123_113, t123_114, t123_117, t123_118, t123_119, t123_122, t123_123, t123_124, t123_125, t123_128, t123_131, lk_s, hp_get, hp_set, uH_at, uH_ne, uH_upd, uH_swap, iZ_add, iZ_sub, iZ_mul, iZ_neg, iZ_lt, iZ_le, iZ_eq, iZ_div, iZ_of, ix_Z, gZ_map, gZ_mapI, gZ_map', le_0, le_s, sZ_map, sZ_len, bZ_0, bZ_inj, bZ_t, bZ_f, nr_i, nr_0, nr_1, nr_b, ft_i, ft_b, ft_0, ft_1, zl_0, zl_1, zl_26, mF_len, mg_0, mg_1, mg_2, mg_3, mg_4, mg_5, mg_6, mg_7, mg_8, mg_9, mg_10, mg_11, mg_12, mg_13, mg_14, mg_15, mg_16, mg_17, mg_18, mg_19, mg_20, mg_21, mg_22, mg_23, mg_24, mg_25, mg_26, mg_27, mg_28, mg_29, mg_30, mg_31, mg_32, mg_33, mg_34, mg_35, mg_36, mg_37, mg_38, ms_0, ms_1, ms_2, ms_13, ms_14, ms_15, ms_16, ms_21, ms_22, ms_23, ms_24, ms_28, ms_36, ms_37, ms_38, st_at, st_ne, st_st, st_swap, l0, l1, hm, hs, b1, cpl, -List.filter_filter, -List.getElem?_map, -List.getD_eq_getElem?_getD]
  | succ r ih =>
    intro k Q lv hQ hk h0 hc l0 l1 
    obtain ⟨lv', h1, h2, h3⟩ := ih (k + 1) (sZ Q (0 + k) ((fun k => gZ S k) k)) (((1 : Nat), .int (iZ (k + 1))) :: List.filter (x_keep 1) lv) (by rw [sZ_len]; exact hQ) (by omega) (by omega) (c1_st rfl hc) (by rw [lk_s hc]; exact l0) (by rw [lk_s hc]; rfl) 
    refine ⟨lv', h1, fun j hj => by rw [h2 j hj, lk_s hc, if_neg (Ne.symm hj)], fun res hcont => ?_⟩
    refine Gx.run 60 Cs.tt (fun C _ => ?_) (h3 res hcont)
    have b1 : ¬ m 7 ≤ k := by omega
    simp (disch := first | (refine c1_id ?_; assumption) | (refine c1_st rfl ?_; repeat (first | assumption | refine c1_st rfl ?_)) | omega) [nx_l, nx_r, nx_n, x_st, x_push, x_bin, x_div, x_un, x_dup, x_pop, x_dup2, x_goto, x_ifeq, x_ifne, x_iflt, x_ifge, x_ifgt, x_ifle, x_iceq, x_icne, x_iclt, x_icge, x_icgt, x_icle, x_ifnull, x_ifnonnull, x_ldi, x_lda, x_sti, x_sta, x_iinc, x_gf, x_pf, x_ald, x_ast, x_aln, x_len, x_cl_, x_cv, x_cs, x_rc, x_r0, x_isT, x_oi, x_rv, x_ri, x_ra, Value.category, t123_0, t123_1, t123_2, t123_5, t123_8, t123_9, t123_10, t123_13, t123_14, t123_17, t123_18, t123_21, t123_22, t123_23, t123_24, t123_25, t123_28, t123_31, t123_32, t123_35, t123_36, t123_37, t123_40, t123_41, t123_42, t123_43, t123_46, t123_49, t123_50, t123_51, t123_52, t123_53, t123_56, t123_59, t123_60, t123_63, t123_64, t123_65, t123_68, t123_69, t123_70, t123_71, t123_74, t123_77, t123_78, t123_79, t123_80, t123_81, t123_84, t123_87, t123_88, t123_91, t123_92, t123_93, t123_96, t123_97, t123_98, t123_99, t123_102, t123_105, t123_106, t123_107, t123_108, t123_110, t123_113, t123_114, t123_117, t123_118, t123_119, t123_122, t123_123, t123_124, t123_125, t123_128, t123_131, lk_s, hp_get, hp_set, uH_at, uH_ne, uH_upd, uH_swap, iZ_add, iZ_sub, iZ_mul, iZ_neg, iZ_lt, iZ_le, iZ_eq, iZ_div, iZ_of, ix_Z, gZ_map, gZ_mapI, gZ_map', le_0, le_s, sZ_map, sZ_len, bZ_0, bZ_inj, bZ_t, bZ_f, nr_i, nr_0, nr_1, nr_b, ft_i, ft_b, ft_0, ft_1, zl_0, zl_1, zl_26, mF_len, mg_0, mg_1, mg_2, mg_3, mg_4, mg_5, mg_6, mg_7, mg_8, mg_9, mg_10, mg_11, mg_12, mg_13, mg_14, mg_15, mg_16, mg_17, mg_18, mg_19, mg_20, mg_21, mg_22, mg_23, mg_24, mg_25, mg_26, mg_27, mg_28, mg_29, mg_30, mg_31, mg_32, mg_33, mg_34, mg_35, mg_36, mg_37, mg_38, ms_0, ms_1, ms_2, ms_13, ms_14, ms_15, ms_16, ms_21, ms_22, ms_23, ms_24, ms_28, ms_36, ms_37, ms_38, st_at, st_ne, st_st, st_swap, l0, l1, hm, hs, b1, -List.filter_filter, -List.getElem?_map, -List.getD_eq_getElem?_getD]
theorem L123_51 (d : Nat) (hN : 53 ≤ N) (hm : w 27 = .inr (8, mF m)) (hs : w 43 = cI 0 S) (hS : S.length = 8) (hb : m 11 ≤ 7) (hb0 : 0 ≤ m 11) : ∀ (r : Nat) (k : Int) (Q : List Int) (lv : xL), Q.length = 14 → k + r = m 11 + 1 → 0 ≤ k → c1 lv → x_lk lv 0 = some (.ref 30) → x_lk lv 1 = some (.int (iZ k)) → ∃ lv', c1 lv' ∧ (∀ j, j ≠ 1 → x_lk lv' j = x_lk lv j) ∧ ∀ res, Gx q_k123 d 77 (lv', [], hp (uH w 39 (cI 0 (cpl (0) (fun k => gZ S k) r k Q))) N) res →
    Gx q_k123 d 51 (lv, [], hp (uH w 39 (cI 0 Q)) N) res := by
  intro r
  induction r with
  | zero =>
    intro k Q lv hQ hk h0 hc l0 l1 
    refine ⟨lv, hc, fun _ _ => rfl, fun res hcont => ?_⟩
    refine Gx.run 60 Cs.tt (fun C _ => ?_) hcont
    have b1 : m 11 < k := by omega
    simp (disch := first | (refine c1_id ?_; assumption) | (refine c1_st rfl ?_; repeat (first | assumption | refine c1_st rfl ?_)) | omega) [nx_l, nx_r, nx_n, x_st, x_push, x_bin, x_div, x_un, x_dup, x_pop, x_dup2, x_goto, x_ifeq, x_ifne, x_iflt, x_ifge, x_ifgt, x_ifle, x_iceq, x_icne, x_iclt, x_icge, x_icgt, x_icle, x_ifnull, x_ifnonnull, x_ldi, x_lda, x_sti, x_sta, x_iinc, x_gf, x_pf, x_ald, x_ast, x_aln, x_len, x_cl_, x_cv, x_cs, x_rc, x_r0, x_isT, x_oi, x_rv, x_ri, x_ra, Value.category, t123_0, t123_1, t123_2, t123_5, t123_8, t123_9, t123_10, t123_13, t123_14, t123_17, t123_18, t123_21, t123_22, t123_23, t123_24, t123_25, t123_28, t123_31, t123_32, t123_35, t123_36, t123_37, t123_40, t123_41, t123_42, t123_43, t123_46, t123_49, t123_50, t123_51, t123_52, t123_53, t123_56, t123_59, t123_60, t123_63, t123_64, t123_65, t123_68, t123_69, t123_70, t123_71, t123_74, t123_77, t123_78, t123_79, t123_80, t123_81, t123_84, t123_87, t123_88, t123_91, t123_92, t123_93, t123_96, t123_97, t123_98, t123_99, t123_102, t123_105, t123_106, t123_107, t123_108, t123_110, t123_113, t123_114, t123_117, t123_118, t123_119, t123_122, t123_123, t123_124, t123_125, t123_128, t123_131, lk_s, hp_get, hp_set, uH_at, uH_ne, uH_upd, uH_swap, iZ_add, iZ_sub, iZ_mul, iZ_neg, iZ_lt, iZ_le, iZ_eq, iZ_div, iZ_of, ix_Z, gZ_map, gZ_mapI, gZ_map', le_0, le_s, sZ_map, sZ_len, bZ_0, bZ_inj, bZ_t, bZ_f, nr_i, nr_0, nr_1, nr_b, ft_i, ft_b, ft_0, ft_1, zl_0, zl_1, zl_26, mF_len, mg_0, mg_1, mg_2, mg_3, mg_4, mg_5, mg_6, mg_7, mg_8, mg_9, mg_10, mg_11, mg_12, mg_13, mg_14, mg_15, mg_16, mg_17, mg_18, mg_19, mg_20, mg_21, mg_22, mg_23, mg_24, mg_25, mg_26, mg_27, mg_28, mg_29, mg_30, mg_31, mg_32, mg_33, mg_34, mg_35, mg_36, mg_37, mg_38, ms_0, ms_1, ms_2, ms_13, ms_14, ms_15, ms_16, ms_21, ms_22, ms_23, ms_24, ms_28, ms_36, ms_37, ms_38, st_at, st_ne, st_st, st_swap, l0, l1, hm, hs, b1, cpl, -List.filter_filter, -List.getElem?_map, -List.getD_eq_getElem?_getD]
  | succ r ih =>
    intro k Q lv hQ hk h0 hc l0 l1 
    obtain ⟨lv', h1, h2, h3⟩ := ih (k + 1) (sZ Q (0 + k) ((fun k => gZ S k) k)) (((1 : Nat), .int (iZ (k + 1))) :: List.filter (x_keep 1) lv) (by rw [sZ_len]; exact hQ) (by omega) (by omega) (c1_st rfl hc) (by rw [lk_s hc]; exact l0) (by rw [lk_s hc]; rfl) 
    refine ⟨lv', h1, fun j hj => by rw [h2 j hj, lk_s hc, if_neg (Ne.symm hj)], fun res hcont => ?_⟩
    refine Gx.run 60 Cs.tt (fun C _ => ?_) (h3 res hcont)
    have b1 : ¬ m 11 < k := by omega
    simp (disch := first | (refine c1_id ?_; assumption) | (refine c1_st rfl ?_; repeat (first | assumption | refine c1_st rfl ?_)) | omega) [nx_l, nx_r, nx_n, x_st, x_push, x_bin, x_div, x_un, x_dup, x_pop, x_dup2, x_goto, x_ifeq, x_ifne, x_iflt, x_ifge, x_ifgt, x_ifle, x_iceq, x_icne, x_iclt, x_icge, x_icgt, x_icle, x_ifnull, x_ifnonnull, x_ldi, x_lda, x_sti, x_sta, x_iinc, x_gf, x_pf, x_ald, x_ast, x_aln, x_len, x_cl_, x_cv, x_cs, x_rc, x_r0, x_isT, x_oi, x_rv, x_ri, x_ra, Value.category, t123_0, t123_1, t123_2, t123_5, t123_8, t123_9, t123_10, t123_13, t123_14, t123_17, t123_18, t123_21, t123_22, t123_23, t123_24, t123_25, t123_28, t123_31, t123_32, t123_35, t123_36, t123_37, t123_40, t123_41, t123_42, t123_43, t123_46, t123_49, t123_50, t123_51, t123_52, t123_53, t123_56, t123_59, t123_60, t123_63, t123_64, t123_65, t123_68, t123_69, t123_70, t123_71, t123_74, t123_77, t123_78, t123_79, t123_80, t123_81, t123_84, t123_87, t123_88, t123_91, t123_92, t123_93, t123_96, t123_97, t123_98, t123_99, t123_102, t123_105, t123_106, t123_107, t123_108, t123_110, t123_113, t123_114, t123_117, t123_118, t123_119, t123_122, t123_123, t123_124, t123_125, t123_128, t123_131, lk_s, hp_get, hp_set, uH_at, uH_ne, uH_upd, uH_swap, iZ_add, iZ_sub, iZ_mul, iZ_neg, iZ_lt, iZ_le, iZ_eq, iZ_div, iZ_of, ix_Z, gZ_map, gZ_mapI, gZ_map', le_0, le_s, sZ_map, sZ_len, bZ_0, bZ_inj, bZ_t, bZ_f, nr_i, nr_0, nr_1, nr_b, ft_i, ft_b, ft_0, ft_1, zl_0, zl_1, zl_26, mF_len, mg_0, mg_1, mg_2, mg_3, mg_4, mg_5, mg_6, mg_7, mg_8, mg_9, mg_10, mg_11, mg_12, mg_13, mg_14, mg_15, mg_16, mg_17, mg_18, mg_19, mg_20, mg_21, mg_22, mg_23, mg_24, mg_25, mg_26, mg_27, mg_28, mg_29, mg_30, mg_31, mg_32, mg_33, mg_34, mg_35, mg_36, mg_37, mg_38, ms_0, ms_1, ms_2, ms_13, ms_14, ms_15, ms_16, ms_21, ms_22, ms_23, ms_24, ms_28, ms_36, ms_37, ms_38, st_at, st_ne, st_st, st_swap, l0, l1, hm, hs, b1, -List.filter_filter, -List.getElem?_map, -List.getD_eq_getElem?_getD]
theorem L123_79 (d : Nat) (hN : 53 ≤ N) (hm : w 27 = .inr (8, mF m)) (hs : w 44 = cI 1 S) (hS : S.length = 8) (hv : ∀ i : Nat, i < m 11 → vp_nar .boolean (iZ (gZ S i)) = iZ (gZ S i)) (hb : m 11 ≤ 7) (hb0 : 0 ≤ m 11) : ∀ (r : Nat) (k : Int) (Q : List Int) (lv : xL), Q.length = 14 → k + r = m 11 → 0 ≤ k → c1 lv → x_lk lv 0 = some (.ref 30) → x_lk lv 1 = some (.int (iZ k)) → ∃ lv', c1 lv' ∧ (∀ j, j ≠ 1 → x_lk lv' j = x_lk lv j) ∧ ∀ res, Gx q_k123 d 105 (lv', [], hp (uH w 41 (cI 1 (cpl (0) (fun k => gZ S k) r k Q))) N) res →
    Gx q_k123 d 79 (lv, [], hp (uH w 41 (cI 1 Q)) N) res := by
  intro r
  induction r with
  | zero =>
    intro k Q lv hQ hk h0 hc l0 l1 
    refine ⟨lv, hc, fun _ _ => rfl, fun res hcont => ?_⟩
    refine Gx.run 60 Cs.tt (fun C _ => ?_) hcont
    have b1 : m 11 ≤ k := by omega
    simp (disch := first | (refine c1_id ?_; assumption) | (refine c1_st rfl ?_; repeat (first | assumption | refine c1_st rfl ?_)) | omega) [nx_l, nx_r, nx_n, x_st, x_push, x_bin, x_div, x_un, x_dup, x_pop, x_dup2, x_goto, x_ifeq, x_ifne, x_iflt, x_ifge, x_ifgt, x_ifle, x_iceq, x_icne, x_iclt, x_icge, x_icgt, x_icle, x_ifnull, x_ifnonnull, x_ldi, x_lda, x_sti, x_sta, x_iinc, x_gf, x_pf, x_ald, x_ast, x_aln, x_len, x_cl_, x_cv, x_cs, x_rc, x_r0, x_isT, x_oi, x_rv, x_ri, x_ra, Value.category, t123_0, t123_1, t123_2, t123_5, t123_8, t123_9, t123_10, t123_13, t123_14, t123_17, t123_18, t123_21, t123_22, t123_23, t123_24, t123_25, t123_28, t123_31, t123_32, t123_35, t123_36, t123_37, t123_40, t123_41, t123_42, t123_43, t123_46, t123_49, t123_50, t123_51, t123_52, t123_53, t123_56, t123_59, t123_60, t123_63, t123_64, t123_65, t123_68, t123_69, t123_70, t123_71, t123_74, t123_77, t123_78, t123_79, t123_80, t123_81, t123_84, t123_87, t123_88, t123_91, t123_92, t123_93, t123_96, t123_97, t123_98, t123_99, t123_102, t123_105, t123_106, t123_107, t123_108, t123_110, t123_113, t123_114, t123_117, t123_118, t123_119, t123_122, t123_123, t123_124, t123_125, t123_128, t123_131, lk_s, hp_get, hp_set, uH_at, uH_ne, uH_upd, uH_swap, iZ_add, iZ_sub, iZ_mul, iZ_neg, iZ_lt, iZ_le, iZ_eq, iZ_div, iZ_of, ix_Z, gZ_map, gZ_mapI, gZ_map', le_0, le_s, sZ_map, sZ_len, bZ_0, bZ_inj, bZ_t, bZ_f, nr_i, nr_0, nr_1, nr_b, ft_i, ft_b, ft_0, ft_1, zl_0, zl_1, zl_26, mF_len, mg_0, mg_1, mg_2, mg_3, mg_4, mg_5, mg_6, mg_7, mg_8, mg_9, mg_10, mg_11, mg_12, mg_13, mg_14, mg_15, mg_16, mg_17, mg_18, mg_19, mg_20, mg_21, mg_22, mg_23, mg_24, mg_25, mg_26, mg_27, mg_28, mg_29, mg_30, mg_31, mg_32, mg_33, mg_34, mg_35, mg_36, mg_37, mg_38, ms_0, ms_1, ms_2, ms_13, ms_14, ms_15, ms_16, ms_21, ms_22, ms_23, ms_24, ms_28, ms_36, ms_37, ms_38, st_at, st_ne, st_st, st_swap, l0, l1, hm, hs, b1, cpl, -List.filter_filter, -List.getElem?_map, -List.getD_eq_getElem?_getD]
  | succ r ih =>
    intro k Q lv hQ hk h0 hc l0 l1 
    obtain ⟨lv', h1, h2, h3⟩ := ih (k + 1) (sZ Q (0 + k) ((fun k => gZ S k) k)) (((1 : Nat), .int (iZ (k + 1))) :: List.filter (x_keep 1) lv) (by rw [sZ_len]; exact hQ) (by omega) (by omega) (c1_st rfl hc) (by rw [lk_s hc]; exact l0) (by rw [lk_s hc]; rfl) 
    refine ⟨lv', h1, fun j hj => by rw [h2 j hj, lk_s hc, if_neg (Ne.symm hj)], fun res hcont => ?_⟩
    refine Gx.run 60 Cs.tt (fun C _ => ?_) (h3 res hcont)
    have b1 : ¬ m 11 ≤ k := by omega
    have hv2 : vp_nar .boolean (iZ (gZ S k)) = iZ (gZ S k) := by
      have := hv k.toNat (by omega)
      rw [show ((k.toNat : Nat) : Int) = k by omega] at this
      exact this
    simp (disch := first | (refine c1_id ?_; assumption) | (refine c1_st rfl ?_; repeat (first | assumption | refine c1_st rfl ?_)) | omega) [nx_l, nx_r, nx_n, x_st, x_push, x_bin, x_div, x_un, x_dup, x_pop, x_dup2, x_goto, x_ifeq, x_ifne, x_iflt, x_ifge, x_ifgt, x_ifle, x_iceq, x_icne, x_iclt, x_icge, x_icgt, x_icle, x_ifnull, x_ifnonnull, x_ldi, x_lda, x_sti, x_sta, x_iinc, x_gf, x_pf, x_ald, x_ast, x_aln, x_len, x_cl_, x_cv, x_cs, x_rc, x_r0, x_isT, x_oi, x_rv, x_ri, x_ra, Value.category, t123_0, t123_1, t123_2, t123_5, t123_8, t123_9, t123_10, t123_13, t123_14, t123_17, t123_18, t123_21, t123_22, t123_23, t123_24, t123_25, t123_28, t123_31, t123_32, t123_35, t123_36, t123_37, t123_40, t123_41, t123_42, t123_43, t123_46, t123_49, t123_50, t123_51, t123_52, t123_53, t123_56, t123_59, t123_60, t123_63, t123_64, t123_65, t123_68, t123_69, t123_70, t123_71, t123_74, t123_77, t123_78, t123_79, t123_80, t123_81, t123_84, t123_87, t123_88, t123_91, t123_92, t123_93, t123_96, t123_97, t123_98, t123_99, t123_102, t123_105, t123_106, t123_107, t123_108, t123_110, t123_113, t123_114, t123_117, t123_118, t123_119, t123_122, t123_123, t123_124, t123_125, t123_128, t123_131, lk_s, hp_get, hp_set, uH_at, uH_ne, uH_upd, uH_swap, iZ_add, iZ_sub, iZ_mul, iZ_neg, iZ_lt, iZ_le, iZ_eq, iZ_div, iZ_of, ix_Z, gZ_map, gZ_mapI, gZ_map', le_0, le_s, sZ_map, sZ_len, bZ_0, bZ_inj, bZ_t, bZ_f, nr_i, nr_0, nr_1, nr_b, ft_i, ft_b, ft_0, ft_1, zl_0, zl_1, zl_26, mF_len, mg_0, mg_1, mg_2, mg_3, mg_4, mg_5, mg_6, mg_7, mg_8, mg_9, mg_10, mg_11, mg_12, mg_13, mg_14, mg_15, mg_16, mg_17, mg_18, mg_19, mg_20, mg_21, mg_22, mg_23, mg_24, mg_25, mg_26, mg_27, mg_28, mg_29, mg_30, mg_31, mg_32, mg_33, mg_34, mg_35, mg_36, mg_37, mg_38, ms_0, ms_1, ms_2, ms_13, ms_14, ms_15, ms_16, ms_21, ms_22, ms_23, ms_24, ms_28, ms_36, ms_37, ms_38, st_at, st_ne, st_st, st_swap, l0, l1, hm, hs, hv2, b1, -List.filter_filter, -List.getElem?_map, -List.getD_eq_getElem?_getD]
theorem L123_107 (d : Nat) (hN : 53 ≤ N) (hm : w 27 = .inr (8, mF m)) (hs : w 36 = cI 0 S) (hS : S.length = 26) : ∀ (r : Nat) (k : Int) (Q : List Int) (lv : xL), Q.length = 26 → k + r = 26 → 0 ≤ k → c1 lv → x_lk lv 0 = some (.ref 30) → x_lk lv 1 = some (.int (iZ k)) → ∃ lv', c1 lv' ∧ (∀ j, j ≠ 1 → x_lk lv' j = x_lk lv j) ∧ ∀ res, Gx q_k123 d 131 (lv', [], hp (uH w 35 (cI 0 (cpl (0) (fun k => gZ S k) r k Q))) N) res →
    Gx q_k123 d 107 (lv, [], hp (uH w 35 (cI 0 Q)) N) res := by
  intro r
  induction r with
  | zero =>
    intro k Q lv hQ hk h0 hc l0 l1 
    refine ⟨lv, hc, fun _ _ => rfl, fun res hcont => ?_⟩
    refine Gx.run 60 Cs.tt (fun C _ => ?_) hcont
    have b1 : 26 ≤ k := by omega
    simp (disch := first | (refine c1_id ?_; assumption) | (refine c1_st rfl ?_; repeat (first | assumption | refine c1_st rfl ?_)) | omega) [nx_l, nx_r, nx_n, x_st, x_push, x_bin, x_div, x_un, x_dup, x_pop, x_dup2, x_goto, x_ifeq, x_ifne, x_iflt, x_ifge, x_ifgt, x_ifle, x_iceq, x_icne, x_iclt, x_icge, x_icgt, x_icle, x_ifnull, x_ifnonnull, x_ldi, x_lda, x_sti, x_sta, x_iinc, x_gf, x_pf, x_ald, x_ast, x_aln, x_len, x_cl_, x_cv, x_cs, x_rc, x_r0, x_isT, x_oi, x_rv, x_ri, x_ra, Value.category, t123_0, t123_1, t123_2, t123_5, t123_8, t123_9, t123_10, t123_13, t123_14, t123_17, t123_18, t123_21, t123_22, t123_23, t123_24, t123_25, t123_28, t123_31, t123_32, t123_35, t123_36, t123_37, t123_40, t123_41, t123_42, t123_43, t123_46, t123_49, t123_50, t123_51, t123_52, t123_53, t123_56, t123_59, t123_60, t123_63, t123_64, t123_65, t123_68, t123_69, t123_70, t123_71, t123_74, t123_77, t123_78, t123_79, t123_80, t123_81, t123_84, t123_87, t123_88, t123_91, t123_92, t123_93, t123_96, t123_97, t123_98, t123_99, t123_102, t123_105, t123_106, t123_107, t123_108, t123_110, t123_113, t123_114, t123_117, t123_118, t123_119, t123_122, t123_123, t123_124, t123_125, t123_128, t123_131, lk_s, hp_get, hp_set, uH_at, uH_ne, uH_upd, uH_swap, iZ_add, iZ_sub, iZ_mul, iZ_neg, iZ_lt, iZ_le, iZ_eq, iZ_div, iZ_of, ix_Z, gZ_map, gZ_mapI, gZ_map', le_0, le_s, sZ_map, sZ_len, bZ_0, bZ_inj, bZ_t, bZ_f, nr_i, nr_0, nr_1, nr_b, ft_i, ft_b, ft_0, ft_1, zl_0, zl_1, zl_26, mF_len, mg_0, mg_1, mg_2, mg_3, mg_4, mg_5, mg_6, mg_7, mg_8, mg_9, mg_10, mg_11, mg_12, mg_13, mg_14, mg_15, mg_16, mg_17, mg_18, mg_19, mg_20, mg_21, mg_22, mg_23, mg_24, mg_25, mg_26, mg_27, mg_28, mg_29, mg_30, mg_31, mg_32, mg_33, mg_34, mg_35, mg_36, mg_37, mg_38, ms_0, ms_1, ms_2, ms_13, ms_14, ms_15, ms_16, ms_21, ms_22, ms_23, ms_24, ms_28, ms_36, ms_37, ms_38, st_at, st_ne, st_st, st_swap, l0, l1, hm, hs, b1, cpl, -List.filter_filter, -List.getElem?_map, -List.getD_eq_getElem?_getD]
  | succ r ih =>
    intro k Q lv hQ hk h0 hc l0 l1 
    obtain ⟨lv', h1, h2, h3⟩ := ih (k + 1) (sZ Q (0 + k) ((fun k => gZ S k) k)) (((1 : Nat), .int (iZ (k + 1))) :: List.filter (x_keep 1) lv) (by rw [sZ_len]; exact hQ) (by omega) (by omega) (c1_st rfl hc) (by rw [lk_s hc]; exact l0) (by rw [lk_s hc]; rfl) 
    refine ⟨lv', h1, fun j hj => by rw [h2 j hj, lk_s hc, if_neg (Ne.symm hj)], fun res hcont => ?_⟩
    refine Gx.run 60 Cs.tt (fun C _ => ?_) (h3 res hcont)
    have b1 : ¬ 26 ≤ k := by omega
    simp (disch := first | (refine c1_id ?_; assumption) | (refine c1_st rfl ?_; repeat (first | assumption | refine c1_st rfl ?_)) | omega) [nx_l, nx_r, nx_n, x_st, x_push, x_bin, x_div, x_un, x_dup, x_pop, x_dup2, x_goto, x_ifeq, x_ifne, x_iflt, x_ifge, x_ifgt, x_ifle, x_iceq, x_icne, x_iclt, x_icge, x_icgt, x_icle, x_ifnull, x_ifnonnull, x_ldi, x_lda, x_sti, x_sta, x_iinc, x_gf, x_pf, x_ald, x_ast, x_aln, x_len, x_cl_, x_cv, x_cs, x_rc, x_r0, x_isT, x_oi, x_rv, x_ri, x_ra, Value.category, t123_0, t123_1, t123_2, t123_5, t123_8, t123_9, t123_10, t123_13, t123_14, t123_17, t123_18, t123_21, t123_22, t123_23, t123_24, t123_25, t123_28, t123_31, t123_32, t123_35, t123_36, t123_37, t123_40, t123_41, t123_42, t123_43, t123_46, t123_49, t123_50, t123_51, t123_52, t123_53, t123_56, t123_59, t123_60, t123_63, t123_64, t123_65, t123_68, t123_69, t123_70, t123_71, t123_74, t123_77, t123_78, t123_79, t123_80, t123_81, t123_84, t123_87, t123_88, t123_91, t123_92, t123_93, t123_96, t123_97, t123_98, t123_99, t123_102, t123_105, t123_106, t123_107, t123_108, t123_110, t123_113, t123_114, t123_117, t123_118, t123_119, t123_122, t123_123, t123_124, t123_125, t123_128, t123_131, lk_s, hp_get, hp_set, uH_at, uH_ne, uH_upd, uH_swap, iZ_add, iZ_sub, iZ_mul, iZ_neg, iZ_lt, iZ_le, iZ_eq, iZ_div, iZ_of, ix_Z, gZ_map, gZ_mapI, gZ_map', le_0, le_s, sZ_map, sZ_len, bZ_0, bZ_inj, bZ_t, bZ_f, nr_i, nr_0, nr_1, nr_b, ft_i, ft_b, ft_0, ft_1, zl_0, zl_1, zl_26, mF_len, mg_0, mg_1, mg_2, mg_3, mg_4, mg_5, mg_6, mg_7, mg_8, mg_9, mg_10, mg_11, mg_12, mg_13, mg_14, mg_15, mg_16, mg_17, mg_18, mg_19, mg_20, mg_21, mg_22, mg_23, mg_24, mg_25, mg_26, mg_27, mg_28, mg_29, mg_30, mg_31, mg_32, mg_33, mg_34, mg_35, mg_36, mg_37, mg_38, ms_0, ms_1, ms_2, ms_13, ms_14, ms_15, ms_16, ms_21, ms_22, ms_23, ms_24, ms_28, ms_36, ms_37, ms_38, st_at, st_ne, st_st, st_swap, l0, l1, hm, hs, b1, -List.filter_filter, -List.getElem?_map, -List.getD_eq_getElem?_getD]
theorem RW.cp {R R' Sa Sa' Mi Mi' : List Int} (h : RW C R Sa Mi) (h1 : ∀ j : Nat, j < (flt C).length → gZ R' j = gZ R j) (h2 : ∀ k : Nat, k ≤ C.length → gZ Sa' k = gZ Sa k) (h3 : ∀ k : Nat, k < C.length → gZ Mi' k = gZ Mi k) : RW C R' Sa' Mi' :=
  ⟨fun j hj => (h1 j hj).trans (h.1 j hj), fun k hk => (h2 k hk).trans (h.2.1 k hk), fun k hk => (h3 k hk).trans (h.2.2 k hk)⟩
def ksK : List Nat := [27, 38, 40, 42, 43, 44]
theorem m122 (d : Nat) (hN : 53 ≤ N) (h : RO w m x) (hI : RI x) (hW : RW C (x 38) (x 39) (x 41)) (hv : vC C) (e8 : m 8 = C.length) (e7 : m 7 = (flt C).length) (h8 : C.length ≤ 6) (h7 : (flt C).length ≤ 40) :
    ∃ (w' : Nat → xC) (x' : Nat → List Int), RO w' (st_ (st_ m 9 (fvs [] (flt C)).length) 11 C.length) x' ∧ Fr ksK w w' ∧ (∀ j, ¬ j ∈ ksK → x' j = x j) ∧ RI x' ∧ RW (rnD C) (x' 42) (x' 43) (x' 44) ∧ Xc (d + 2) 122 [.ref 30] (hp w N) (none, hp w' N) := by
  have r_ : ∀ j, 28 ≤ j → j ≤ 51 → w j = cI (kdR j) (x j) ∧ (x j).length = lnR j := h.2
  obtain ⟨w0, R', Mp', F0, k1, k2, k3, k4, k5, k6, X0⟩ := m106 d hN h.1 (r_ 38 (by decide) (by decide)).1 (r_ 38 (by decide) (by decide)).2 (r_ 40 (by decide) (by decide)).1 (r_ 40 (by decide) (by decide)).2 hW hv e7 (by omega)
  have R0 : RO w0 (st_ m 9 (fvs [] (flt C)).length) (ux (ux x 38 R') 40 Mp') := by
    refine RO.upd (ks := [38, 40]) h F0 k1 (fun j hj => ?_) (fun j hj => ?_)
    · simp only [List.mem_cons, List.not_mem_nil, or_false] at hj
      rcases hj with rfl | rfl
      · exact ⟨k2, k3⟩
      · exact ⟨k4, k5⟩
    · simp only [List.mem_cons, List.not_mem_nil, or_false, not_or] at hj
      rw [ux_ne hj.2, ux_ne hj.1]
  have hm0 := R0.1
  obtain ⟨m1, hm1⟩ : ∃ m1, m1 = st_ (st_ m 9 (fvs [] (flt C)).length) 11 (C.length : Int) := ⟨_, rfl⟩
  have z7 : m1 7 = (flt C).length := by rw [hm1, st_ne (by decide), st_ne (by decide)]; exact e7
  have z8 : m1 8 = C.length := by rw [hm1, st_ne (by decide), st_ne (by decide)]; exact e8
  have y8 : (st_ m 9 (fvs [] (flt C)).length) 8 = C.length := by rw [st_ne (by decide)]; exact e8
  obtain ⟨w1, hw1⟩ : ∃ w1, w1 = uH w0 27 (.inr (8, mF m1)) := ⟨_, rfl⟩
  have R1 : RO w1 m1 (ux (ux x 38 R') 40 Mp') := by rw [hw1]; exact R0.fld m1
  have r1 : ∀ j, 28 ≤ j → j ≤ 51 → w1 j = cI (kdR j) (ux (ux x 38 R') 40 Mp' j) ∧ (ux (ux x 38 R') 40 Mp' j).length = lnR j := R1.2
  have hc : c1 (lv_args 0 [.ref 30]) := by simp [c1, lv_args, Value.category]
  have l0 : x_lk (lv_args 0 [.ref 30]) 0 = some (.ref 30) := rfl
  have C1 := c1_st (i := 1) (v := .int (iZ 0)) rfl hc
  have h42 : w1 42 = cI 0 (x 42) := (r1 42 (by decide) (by decide)).1
  have n42 : (x 42).length = 60 := (r1 42 (by decide) (by decide)).2
  obtain ⟨lvA, hA, sA, gA⟩ := L122_14 (w := w1) (m := m1) (S := R') (d + 1) hN R1.1 (r1 38 (by decide) (by decide)).1 k3 (by omega) (by omega) (flt C).length 0 (x 42) _ n42 (by omega) (by omega) C1 (by rw [lk_s hc]; exact l0) (by rw [lk_s hc]; rfl)
  rw [uH_self h42] at gA
  obtain ⟨Q1, hQ1⟩ : ∃ Q, Q = cpl 0 (fun k => gZ R' k) (flt C).length 0 (x 42) := ⟨_, rfl⟩
  have nQ1 : Q1.length = 60 := by rw [hQ1, cpl_len]; exact n42
  rw [← hQ1] at gA
  obtain ⟨w2, hw2⟩ : ∃ w2, w2 = uH w1 42 (cI 0 Q1) := ⟨_, rfl⟩
  have R2 : RO w2 m1 (ux (ux (ux x 38 R') 40 Mp') 42 Q1) := by rw [hw2]; exact R1.set (j := 42) (by decide) nQ1
  rw [← hw2] at gA
  have r2 : ∀ j, 28 ≤ j → j ≤ 51 → w2 j = cI (kdR j) (ux (ux (ux x 38 R') 40 Mp') 42 Q1 j) ∧ (ux (ux (ux x 38 R') 40 Mp') 42 Q1 j).length = lnR j := R2.2
  have a0 : x_lk lvA 0 = some (.ref 30) := by rw [sA 0 (by decide), lk_s hc]; exact l0
  have A1 := c1_st (i := 1) (v := .int (iZ 0)) rfl hA
  have h43 : w2 43 = cI 0 (x 43) := (r2 43 (by decide) (by decide)).1
  have n43 : (x 43).length = 8 := (r2 43 (by decide) (by decide)).2
  obtain ⟨lvB, hB, sB, gB⟩ := L122_42 (w := w2) (m := m1) (S := x 39) (d + 1) hN R2.1 (r2 39 (by decide) (by decide)).1 (r2 39 (by decide) (by decide)).2 (by omega) (by omega) (C.length + 1) 0 (x 43) _ n43 (by omega) (by omega) A1 (by rw [lk_s hA]; exact a0) (by rw [lk_s hA]; rfl)
  rw [uH_self h43] at gB
  obtain ⟨Q2, hQ2⟩ : ∃ Q, Q = cpl 0 (fun k => gZ (x 39) k) (C.length + 1) 0 (x 43) := ⟨_, rfl⟩
  have nQ2 : Q2.length = 8 := by rw [hQ2, cpl_len]; exact n43
  rw [← hQ2] at gB
  obtain ⟨w3, hw3⟩ : ∃ w3, w3 = uH w2 43 (cI 0 Q2) := ⟨_, rfl⟩
  have R3 : RO w3 m1 (ux (ux (ux (ux x 38 R') 40 Mp') 42 Q1) 43 Q2) := by rw [hw3]; exact R2.set (j := 43) (by decide) nQ2
  rw [← hw3] at gB
  have r3 : ∀ j, 28 ≤ j → j ≤ 51 → w3 j = cI (kdR j) (ux (ux (ux (ux x 38 R') 40 Mp') 42 Q1) 43 Q2 j) ∧ (ux (ux (ux (ux x 38 R') 40 Mp') 42 Q1) 43 Q2 j).length = lnR j := R3.2
  have b0 : x_lk lvB 0 = some (.ref 30) := by rw [sB 0 (by decide), lk_s hA]; exact a0
  have B1 := c1_st (i := 1) (v := .int (iZ 0)) rfl hB
  have h44 : w3 44 = cI 1 (x 44) := (r3 44 (by decide) (by decide)).1
  have n44 : (x 44).length = 8 := (r3 44 (by decide) (by decide)).2
  obtain ⟨lvE, hE, sE, gE⟩ := L122_70 (w := w3) (m := m1) (S := x 41) (d + 1) hN R3.1 (r3 41 (by decide) (by decide)).1 (r3 41 (by decide) (by decide)).2 (fun i => nar_of (hI.2.1 i)) (by omega) (by omega) C.length 0 (x 44) _ n44 (by omega) (by omega) B1 (by rw [lk_s hB]; exact b0) (by rw [lk_s hB]; rfl)
  rw [uH_self h44] at gE
  obtain ⟨Q3, hQ3⟩ : ∃ Q, Q = cpl 0 (fun k => gZ (x 41) k) C.length 0 (x 44) := ⟨_, rfl⟩
  have nQ3 : Q3.length = 8 := by rw [hQ3, cpl_len]; exact n44
  rw [← hQ3] at gE
  obtain ⟨w4, hw4⟩ : ∃ w4, w4 = uH w3 44 (cI 1 Q3) := ⟨_, rfl⟩
  have R4 : RO w4 m1 (ux (ux (ux (ux (ux x 38 R') 40 Mp') 42 Q1) 43 Q2) 44 Q3) := by rw [hw4]; exact R3.set (j := 44) (by decide) nQ3
  rw [← hw4] at gE
  have F4 : Fr ksK w w4 := by
    rw [hw4, hw3, hw2, hw1]
    exact ((((F0.sub (fun j hj => by
      simp only [List.mem_cons, List.not_mem_nil, or_false] at hj
      rcases hj with rfl | rfl | rfl <;> decide)).up (by decide)).up (by decide)).up (by decide)).up (by decide)
  have R4' := R4
  rw [hm1] at R4'
  refine ⟨w4, _, R4', F4, fun j hj => ?_, ⟨hI.1, hI.2⟩, k6.cp (fun j hj => ?_) (fun k hk => ?_) (fun k hk => ?_), Xc.of rfl (by simp [lg_sl, Value.category]) (Gx.run 40 X0 (fun C mm => ?_) (gA _ (Gx.run 20 Cs.tt (fun C _ => ?_) (gB _ (Gx.run 20 Cs.tt (fun C _ => ?_) (gE _ (Gx.fin 20 Cs.tt (fun C _ => ?_)))))))) (h.le R4 (fun j hj => ?_))⟩
  · unfold ksK at hj
    simp only [List.mem_cons, List.not_mem_nil, or_false, not_or] at hj
    rw [ux_ne hj.2.2.2.2.2, ux_ne hj.2.2.2.2.1, ux_ne hj.2.2.2.1, ux_ne hj.2.2.1, ux_ne hj.2.1]
  · rw [flt_rnD, rnm_len] at hj
    show gZ Q1 j = gZ R' j
    rw [hQ1, cpl_at (by omega) (by omega) (by omega), if_pos (by omega), Int.sub_zero]
  · rw [rnD_len] at hk
    show gZ Q2 k = gZ (x 39) k
    rw [hQ2, cpl_at (by omega) (by omega) (by omega), if_pos (by omega), Int.sub_zero]
  · rw [rnD_len] at hk
    show gZ Q3 k = gZ (x 41) k
    rw [hQ3, cpl_at (by omega) (by omega) (by omega), if_pos (by omega), Int.sub_zero]
  · rw [hw1, hm1]
    generalize lv_args 0 [.ref 30] = lv0 at hc l0 C1
    have hmw := h.1
    simp (disch := first | (refine c1_id ?_; assumption) | (refine c1_st rfl ?_; repeat (first | assumption | refine c1_st rfl ?_)) | omega) [nx_l, nx_r, nx_n, x_st, x_push, x_bin, x_div, x_un, x_dup, x_pop, x_dup2, x_goto, x_ifeq, x_ifne, x_iflt, x_ifge, x_ifgt, x_ifle, x_iceq, x_icne, x_iclt, x_icge, x_icgt, x_icle, x_ifnull, x_ifnonnull, x_ldi, x_lda, x_sti, x_sta, x_iinc, x_gf, x_pf, x_ald, x_ast, x_aln, x_len, x_cl_, x_cv, x_cs, x_rc, x_r0, x_isT, x_oi, x_rv, x_ri, x_ra, Value.category, t122_0, t122_1, t122_4, t122_5, t122_6, t122_9, t122_12, t122_13, t122_14, t122_15, t122_16, t122_19, t122_22, t122_23, t122_26, t122_27, t122_28, t122_31, t122_32, t122_33, t122_34, t122_37, t122_40, t122_41, t122_42, t122_43, t122_44, t122_47, t122_50, t122_51, t122_54, t122_55, t122_56, t122_59, t122_60, t122_61, t122_62, t122_65, t122_68, t122_69, t122_70, t122_71, t122_72, t122_75, t122_78, t122_79, t122_82, t122_83, t122_84, t122_87, t122_88, t122_89, t122_90, t122_93, t122_96, lk_s, hp_get, hp_set, uH_at, uH_ne, uH_upd, uH_swap, iZ_add, iZ_sub, iZ_mul, iZ_neg, iZ_lt, iZ_le, iZ_eq, iZ_div, iZ_of, ix_Z, gZ_map, gZ_mapI, gZ_map', le_0, le_s, sZ_map, sZ_len, bZ_0, bZ_inj, bZ_t, bZ_f, nr_i, nr_0, nr_1, nr_b, ft_i, ft_b, ft_0, ft_1, zl_0, zl_1, mF_len, mg_0, mg_1, mg_2, mg_3, mg_4, mg_5, mg_6, mg_7, mg_8, mg_9, mg_10, mg_11, mg_12, mg_13, mg_14, mg_15, mg_16, mg_17, mg_18, mg_19, mg_20, mg_21, mg_22, mg_23, mg_24, mg_25, mg_26, mg_27, mg_28, mg_29, mg_30, mg_31, mg_32, mg_33, mg_34, mg_35, mg_36, mg_37, mg_38, ms_0, ms_1, ms_2, ms_13, ms_14, ms_15, ms_16, ms_21, ms_22, ms_23, ms_24, ms_28, ms_36, ms_37, ms_38, st_at, st_ne, st_st, st_swap, l0, mm, hmw, hm0, e8, -List.filter_filter, -List.getElem?_map, -List.getD_eq_getElem?_getD]
  · simp (disch := first | (refine c1_id ?_; assumption) | (refine c1_st rfl ?_; repeat (first | assumption | refine c1_st rfl ?_)) | omega) [nx_l, nx_r, nx_n, x_st, x_push, x_bin, x_div, x_un, x_dup, x_pop, x_dup2, x_goto, x_ifeq, x_ifne, x_iflt, x_ifge, x_ifgt, x_ifle, x_iceq, x_icne, x_iclt, x_icge, x_icgt, x_icle, x_ifnull, x_ifnonnull, x_ldi, x_lda, x_sti, x_sta, x_iinc, x_gf, x_pf, x_ald, x_ast, x_aln, x_len, x_cl_, x_cv, x_cs, x_rc, x_r0, x_isT, x_oi, x_rv, x_ri, x_ra, Value.category, t122_0, t122_1, t122_4, t122_5, t122_6, t122_9, t122_12, t122_13, t122_14, t122_15, t122_16, t122_19, t122_22, t122_23, t122_26, t122_27, t122_28, t122_31, t122_32, t122_33, t122_34, t122_37, t122_40, t122_41, t122_42, t122_43, t122_44, t122_47, t122_50, t122_51, t122_54, t122_55, t122_56, t122_59, t122_60, t122_61, t122_62, t122_65, t122_68, t122_69, t122_70, t122_71, t122_72, t122_75, t122_78, t122_79, t122_82, t122_83, t122_84, t122_87, t122_88, t122_89, t122_90, t122_93, t122_96, lk_s, hp_get, hp_set, uH_at, uH_ne, uH_upd, uH_swap, iZ_add, iZ_sub, iZ_mul, iZ_neg, iZ_lt, iZ_le, iZ_eq, iZ_div, iZ_of, ix_Z, gZ_map, gZ_mapI, gZ_map', le_0, le_s, sZ_map, sZ_len, bZ_0, bZ_inj, bZ_t, bZ_f, nr_i, nr_0, nr_1, nr_b, ft_i, ft_b, ft_0, ft_1, zl_0, zl_1, mF_len, mg_0, mg_1, mg_2, mg_3, mg_4, mg_5, mg_6, mg_7, mg_8, mg_9, mg_10, mg_11, mg_12, mg_13, mg_14, mg_15, mg_16, mg_17, mg_18, mg_19, mg_20, mg_21, mg_22, mg_23, mg_24, mg_25, mg_26, mg_27, mg_28, mg_29, mg_30, mg_31, mg_32, mg_33, mg_34, mg_35, mg_36, mg_37, mg_38, ms_0, ms_1, ms_2, ms_13, ms_14, ms_15, ms_16, ms_21, ms_22, ms_23, ms_24, ms_28, ms_36, ms_37, ms_38, st_at, st_ne, st_st, st_swap, a0, -List.filter_filter, -List.getElem?_map, -List.getD_eq_getElem?_getD]
  · simp (disch := first | (refine c1_id ?_; assumption) | (refine c1_st rfl ?_; repeat (first | assumption | refine c1_st rfl ?_)) | omega) [nx_l, nx_r, nx_n, x_st, x_push, x_bin, x_div, x_un, x_dup, x_pop, x_dup2, x_goto, x_ifeq, x_ifne, x_iflt, x_ifge, x_ifgt, x_ifle, x_iceq, x_icne, x_iclt, x_icge, x_icgt, x_icle, x_ifnull, x_ifnonnull, x_ldi, x_lda, x_sti, x_sta, x_iinc, x_gf, x_pf, x_ald, x_ast, x_aln, x_len, x_cl_, x_cv, x_cs, x_rc, x_r0, x_isT, x_oi, x_rv, x_ri, x_ra, Value.category, t122_0, t122_1, t122_4, t122_5, t122_6, t122_9, t122_12, t122_13, t122_14, t122_15, t122_16, t122_19, t122_22, t122_23, t122_26, t122_27, t122_28, t122_31, t122_32, t122_33, t122_34, t122_37, t122_40, t122_41, t122_42, t122_43, t122_44, t122_47, t122_50, t122_51, t122_54, t122_55, t122_56, t122_59, t122_60, t122_61, t122_62, t122_65, t122_68, t122_69, t122_70, t122_71, t122_72, t122_75, t122_78, t122_79, t122_82, t122_83, t122_84, t122_87, t122_88, t122_89, t122_90, t122_93, t122_96, lk_s, hp_get, hp_set, uH_at, uH_ne, uH_upd, uH_swap, iZ_add, iZ_sub, iZ_mul, iZ_neg, iZ_lt, iZ_le, iZ_eq, iZ_div, iZ_of, ix_Z, gZ_map, gZ_mapI, gZ_map', le_0, le_s, sZ_map, sZ_len, bZ_0, bZ_inj, bZ_t, bZ_f, nr_i, nr_0, nr_1, nr_b, ft_i, ft_b, ft_0, ft_1, zl_0, zl_1, mF_len, mg_0, mg_1, mg_2, mg_3, mg_4, mg_5, mg_6, mg_7, mg_8, mg_9, mg_10, mg_11, mg_12, mg_13, mg_14, mg_15, mg_16, mg_17, mg_18, mg_19, mg_20, mg_21, mg_22, mg_23, mg_24, mg_25, mg_26, mg_27, mg_28, mg_29, mg_30, mg_31, mg_32, mg_33, mg_34, mg_35, mg_36, mg_37, mg_38, ms_0, ms_1, ms_2, ms_13, ms_14, ms_15, ms_16, ms_21, ms_22, ms_23, ms_24, ms_28, ms_36, ms_37, ms_38, st_at, st_ne, st_st, st_swap, b0, -List.filter_filter, -List.getElem?_map, -List.getD_eq_getElem?_getD]
  · simp (disch := first | (refine c1_id ?_; assumption) | (refine c1_st rfl ?_; repeat (first | assumption | refine c1_st rfl ?_)) | omega) [nx_l, nx_r, nx_n, x_st, x_push, x_bin, x_div, x_un, x_dup, x_pop, x_dup2, x_goto, x_ifeq, x_ifne, x_iflt, x_ifge, x_ifgt, x_ifle, x_iceq, x_icne, x_iclt, x_icge, x_icgt, x_icle, x_ifnull, x_ifnonnull, x_ldi, x_lda, x_sti, x_sta, x_iinc, x_gf, x_pf, x_ald, x_ast, x_aln, x_len, x_cl_, x_cv, x_cs, x_rc, x_r0, x_isT, x_oi, x_rv, x_ri, x_ra, Value.category, t122_0, t122_1, t122_4, t122_5, t122_6, t122_9, t122_12, t122_13, t122_14, t122_15, t122_16, t122_19, t122_22, t122_23, t122_26, t122_27, t122_28, t122_31, t122_32, t122_33, t122_34, t122_37, t122_40, t122_41, t122_42, t122_43, t122_44, t122_47, t122_50, t122_51, t122_54, t122_55, t122_56, t122_59, t122_60, t122_61, t122_62, t122_65, t122_68, t122_69, t122_70, t122_71, t122_72, t122_75, t122_78, t122_79, t122_82, t122_83, t122_84, t122_87, t122_88, t122_89, t122_90, t122_93, t122_96, lk_s, hp_get, hp_set, uH_at, uH_ne, uH_upd, uH_swap, iZ_add, iZ_sub, iZ_mul, iZ_neg, iZ_lt, iZ_le, iZ_eq, iZ_div, iZ_of, ix_Z, gZ_map, gZ_mapI, gZ_map', le_0, le_s, sZ_map, sZ_len, bZ_0, bZ_inj, bZ_t, bZ_f, nr_i, nr_0, nr_1, nr_b, ft_i, ft_b, ft_0, ft_1, zl_0, zl_1, mF_len, mg_0, mg_1, mg_2, mg_3, mg_4, mg_5, mg_6, mg_7, mg_8, mg_9, mg_10, mg_11, mg_12, mg_13, mg_14, mg_15, mg_16, mg_17, mg_18, mg_19, mg_20, mg_21, mg_22, mg_23, mg_24, mg_25, mg_26, mg_27, mg_28, mg_29, mg_30, mg_31, mg_32, mg_33, mg_34, mg_35, mg_36, mg_37, mg_38, ms_0, ms_1, ms_2, ms_13, ms_14, ms_15, ms_16, ms_21, ms_22, ms_23, ms_24, ms_28, ms_36, ms_37, ms_38, st_at, st_ne, st_st, st_swap, -List.filter_filter, -List.getElem?_map, -List.getD_eq_getElem?_getD]
  · rw [F4 j (by
      unfold ksK
      simp only [List.mem_cons, List.not_mem_nil, or_false]
      omega)]
    exact Nat.le_refl _
def ksT : List Nat := [27, 35, 38, 39, 41]
theorem m123 (d : Nat) (hN : 53 ≤ N) (h : RO w m x) (hI : RI x) (hW : RW E (x 42) (x 43) (x 44)) (g : gC E) (e11 : m 11 = E.length) :
    ∃ (w' : Nat → xC) (x' : Nat → List Int), RO w' (st_ (st_ m 7 (flt E).length) 8 E.length) x' ∧ Fr ksT w w' ∧ (∀ j, ¬ j ∈ ksT → x' j = x j) ∧ RI x' ∧ RW E (x' 38) (x' 39) (x' 41) ∧ (∀ j, 0 ≤ j → j < 26 → gZ (x' 35) j = gZ (x 36) j) ∧ Xc (d + 1) 123 [.ref 30] (hp w N) (none, hp w' N) := by
  have g1 := g.1
  have g2 := g.2.1
  have r_ : ∀ j, 28 ≤ j → j ≤ 51 → w j = cI (kdR j) (x j) ∧ (x j).length = lnR j := h.2
  have hm0 := h.1
  have es : gZ (x 43) E.length = (flt E).length := by
    rw [hW.2.1 _ (Nat.le_refl _), stC_all]
  obtain ⟨m1, hm1⟩ : ∃ m1, m1 = st_ (st_ m 7 ((flt E).length : Int)) 8 (E.length : Int) := ⟨_, rfl⟩
  have z7 : m1 7 = (flt E).length := by rw [hm1, st_ne (by decide), st_at]
  have z11 : m1 11 = E.length := by rw [hm1, st_ne (by decide), st_ne (by decide)]; exact e11
  obtain ⟨w1, hw1⟩ : ∃ w1, w1 = uH w 27 (.inr (8, mF m1)) := ⟨_, rfl⟩
  have R1 : RO w1 m1 x := by rw [hw1]; exact h.fld m1
  have r1 : ∀ j, 28 ≤ j → j ≤ 51 → w1 j = cI (kdR j) (x j) ∧ (x j).length = lnR j := R1.2
  have hc : c1 (lv_args 0 [.ref 30]) := by simp [c1, lv_args, Value.category]
  have l0 : x_lk (lv_args 0 [.ref 30]) 0 = some (.ref 30) := rfl
  have C1 := c1_st (i := 1) (v := .int (iZ 0)) rfl hc
  have h38 : w1 38 = cI 0 (x 38) := (r1 38 (by decide) (by decide)).1
  have n38 : (x 38).length = 600 := (r1 38 (by decide) (by decide)).2
  have h43 : w 43 = cI 0 (x 43) := (r_ 43 (by decide) (by decide)).1
  have n43 : (x 43).length = 8 := (r_ 43 (by decide) (by decide)).2
  obtain ⟨lvA, hA, sA, gA⟩ := L123_23 (w := w1) (m := m1) (S := x 42) d hN R1.1 (r1 42 (by decide) (by decide)).1 (r1 42 (by decide) (by decide)).2 (by omega) (by omega) (flt E).length 0 (x 38) _ n38 (by omega) (by omega) C1 (by rw [lk_s hc]; exact l0) (by rw [lk_s hc]; rfl)
  rw [uH_self h38] at gA
  obtain ⟨Q1, hQ1⟩ : ∃ Q, Q = cpl 0 (fun k => gZ (x 42) k) (flt E).length 0 (x 38) := ⟨_, rfl⟩
  have nQ1 : Q1.length = 600 := by rw [hQ1, cpl_len]; exact n38
  rw [← hQ1] at gA
  obtain ⟨w2, hw2⟩ : ∃ w2, w2 = uH w1 38 (cI 0 Q1) := ⟨_, rfl⟩
  have R2 : RO w2 m1 (ux x 38 Q1) := by rw [hw2]; exact R1.set (j := 38) (by decide) nQ1
  rw [← hw2] at gA
  have r2 : ∀ j, 28 ≤ j → j ≤ 51 → w2 j = cI (kdR j) (ux x 38 Q1 j) ∧ (ux x 38 Q1 j).length = lnR j := R2.2
  have a0 : x_lk lvA 0 = some (.ref 30) := by rw [sA 0 (by decide), lk_s hc]; exact l0
  have A1 := c1_st (i := 1) (v := .int (iZ 0)) rfl hA
  have h39 : w2 39 = cI 0 (x 39) := (r2 39 (by decide) (by decide)).1
  have n39 : (x 39).length = 14 := (r2 39 (by decide) (by decide)).2
  obtain ⟨lvB, hB, sB, gB⟩ := L123_51 (w := w2) (m := m1) (S := x 43) d hN R2.1 (r2 43 (by decide) (by decide)).1 (r2 43 (by decide) (by decide)).2 (by omega) (by omega) (E.length + 1) 0 (x 39) _ n39 (by omega) (by omega) A1 (by rw [lk_s hA]; exact a0) (by rw [lk_s hA]; rfl)
  rw [uH_self h39] at gB
  obtain ⟨Q2, hQ2⟩ : ∃ Q, Q = cpl 0 (fun k => gZ (x 43) k) (E.length + 1) 0 (x 39) := ⟨_, rfl⟩
  have nQ2 : Q2.length = 14 := by rw [hQ2, cpl_len]; exact n39
  rw [← hQ2] at gB
  obtain ⟨w3, hw3⟩ : ∃ w3, w3 = uH w2 39 (cI 0 Q2) := ⟨_, rfl⟩
  have R3 : RO w3 m1 (ux (ux x 38 Q1) 39 Q2) := by rw [hw3]; exact R2.set (j := 39) (by decide) nQ2
  rw [← hw3] at gB
  have r3 : ∀ j, 28 ≤ j → j ≤ 51 → w3 j = cI (kdR j) (ux (ux x 38 Q1) 39 Q2 j) ∧ (ux (ux x 38 Q1) 39 Q2 j).length = lnR j := R3.2
  have b0 : x_lk lvB 0 = some (.ref 30) := by rw [sB 0 (by decide), lk_s hA]; exact a0
  have B1 := c1_st (i := 1) (v := .int (iZ 0)) rfl hB
  have h41 : w3 41 = cI 1 (x 41) := (r3 41 (by decide) (by decide)).1
  have n41 : (x 41).length = 14 := (r3 41 (by decide) (by decide)).2
  obtain ⟨lvE, hE, sE, gE⟩ := L123_79 (w := w3) (m := m1) (S := x 44) d hN R3.1 (r3 44 (by decide) (by decide)).1 (r3 44 (by decide) (by decide)).2 (fun i hi => nar_of (by
    have hi2 : i < E.length := by omega
    rw [hW.2.2 i hi2]
    exact (g.2.2 _ (lC_mem hi2)).1)) (by omega) (by omega) E.length 0 (x 41) _ n41 (by omega) (by omega) B1 (by rw [lk_s hB]; exact b0) (by rw [lk_s hB]; rfl)
  rw [uH_self h41] at gE
  obtain ⟨Q3, hQ3⟩ : ∃ Q, Q = cpl 0 (fun k => gZ (x 44) k) E.length 0 (x 41) := ⟨_, rfl⟩
  have nQ3 : Q3.length = 14 := by rw [hQ3, cpl_len]; exact n41
  rw [← hQ3] at gE
  obtain ⟨w4, hw4⟩ : ∃ w4, w4 = uH w3 41 (cI 1 Q3) := ⟨_, rfl⟩
  have R4 : RO w4 m1 (ux (ux (ux x 38 Q1) 39 Q2) 41 Q3) := by rw [hw4]; exact R3.set (j := 41) (by decide) nQ3
  rw [← hw4] at gE
  have r4 : ∀ j, 28 ≤ j → j ≤ 51 → w4 j = cI (kdR j) (ux (ux (ux x 38 Q1) 39 Q2) 41 Q3 j) ∧ (ux (ux (ux x 38 Q1) 39 Q2) 41 Q3 j).length = lnR j := R4.2
  have d0 : x_lk lvE 0 = some (.ref 30) := by rw [sE 0 (by decide), lk_s hB]; exact b0
  have E1 := c1_st (i := 1) (v := .int (iZ 0)) rfl hE
  have h35 : w4 35 = cI 0 (x 35) := (r4 35 (by decide) (by decide)).1
  have n35 : (x 35).length = 26 := (r4 35 (by decide) (by decide)).2
  obtain ⟨lvF, hF, sF, gF⟩ := L123_107 (w := w4) (m := m1) (S := x 36) d hN R4.1 (r4 36 (by decide) (by decide)).1 (r4 36 (by decide) (by decide)).2 26 0 (x 35) _ n35 (by omega) (by omega) E1 (by rw [lk_s hE]; exact d0) (by rw [lk_s hE]; rfl)
  rw [uH_self h35] at gF
  obtain ⟨Q4, hQ4⟩ : ∃ Q, Q = cpl 0 (fun k => gZ (x 36) k) 26 0 (x 35) := ⟨_, rfl⟩
  have nQ4 : Q4.length = 26 := by rw [hQ4, cpl_len]; exact n35
  rw [← hQ4] at gF
  obtain ⟨w5, hw5⟩ : ∃ w5, w5 = uH w4 35 (cI 0 Q4) := ⟨_, rfl⟩
  have R5 : RO w5 m1 (ux (ux (ux (ux x 38 Q1) 39 Q2) 41 Q3) 35 Q4) := by rw [hw5]; exact R4.set (j := 35) (by decide) nQ4
  rw [← hw5] at gF
  have F5 : Fr ksT w w5 := by
    rw [hw5, hw4, hw3, hw2, hw1]
    exact (((((Fr.rf _ _).up (by decide)).up (by decide)).up (by decide)).up (by decide)).up (by decide)
  have s0 : gZ (x 43) 0 = 0 := hW.2.1 0 (Nat.zero_le _)
  have R5' := R5
  rw [hm1] at R5'
  refine ⟨w5, _, R5', F5, fun j hj => ?_, ⟨hI.1, fun i => ?_, hI.2.2.1, ?_⟩, hW.cp (fun j hj => ?_) (fun k hk => ?_) (fun k hk => ?_), fun j j0 j1 => ?_, Xc.of rfl (by simp [lg_sl, Value.category]) (Gx.run 40 Cs.tt (fun C _ => ?_) (gA _ (Gx.run 20 Cs.tt (fun C _ => ?_) (gB _ (Gx.run 20 Cs.tt (fun C _ => ?_) (gE _ (Gx.run 20 Cs.tt (fun C _ => ?_) (gF _ (Gx.fin 20 Cs.tt (fun C _ => ?_)))))))))) (h.le R5 (fun j hj => ?_))⟩
  · unfold ksT at hj
    simp only [List.mem_cons, List.not_mem_nil, or_false, not_or] at hj
    rw [ux_ne hj.2.1, ux_ne hj.2.2.2.2, ux_ne hj.2.2.2.1, ux_ne hj.2.2.1]
  · show gZ Q3 i = 0 ∨ gZ Q3 i = 1
    have key : ∀ i, 0 ≤ i → gZ Q3 i = 0 ∨ gZ Q3 i = 1 := fun i i0 => by
      rw [hQ3, cpl_at (by omega) (by omega) i0]
      split
      · next hj =>
        have hi2 : i.toNat < E.length := by omega
        have := hW.2.2 i.toNat hi2
        rw [show ((i.toNat : Nat) : Int) = i by omega] at this
        rw [Int.sub_zero, this]
        exact (g.2.2 _ (lC_mem hi2)).1
      · exact hI.2.1 i
    by_cases i0 : 0 ≤ i
    · exact key i i0
    · rw [gZ_neg (by omega)]
      exact key 0 (by omega)
  · show gZ Q2 0 = 0
    rw [hQ2, cpl_at (by omega) (by omega) (by omega), if_pos (by omega), Int.sub_zero]
    exact s0
  · show gZ Q1 j = gZ (x 42) j
    rw [hQ1, cpl_at (by omega) (by omega) (by omega), if_pos (by omega), Int.sub_zero]
  · show gZ Q2 k = gZ (x 43) k
    rw [hQ2, cpl_at (by omega) (by omega) (by omega), if_pos (by omega), Int.sub_zero]
  · show gZ Q3 k = gZ (x 44) k
    rw [hQ3, cpl_at (by omega) (by omega) (by omega), if_pos (by omega), Int.sub_zero]
  · show gZ Q4 j = gZ (x 36) j
    rw [hQ4, cpl_at (by omega) (by omega) j0, if_pos (by omega), Int.sub_zero]
  · rw [hw1, hm1]
    generalize lv_args 0 [.ref 30] = lv0 at hc l0 C1
    simp (disch := first | (refine c1_id ?_; assumption) | (refine c1_st rfl ?_; repeat (first | assumption | refine c1_st rfl ?_)) | omega) [nx_l, nx_r, nx_n, x_st, x_push, x_bin, x_div, x_un, x_dup, x_pop, x_dup2, x_goto, x_ifeq, x_ifne, x_iflt, x_ifge, x_ifgt, x_ifle, x_iceq, x_icne, x_iclt, x_icge, x_icgt, x_icle, x_ifnull, x_ifnonnull, x_ldi, x_lda, x_sti, x_sta, x_iinc, x_gf, x_pf, x_ald, x_ast, x_aln, x_len, x_cl_, x_cv, x_cs, x_rc, x_r0, x_isT, x_oi, x_rv, x_ri, x_ra, Value.category, t123_0, t123_1, t123_2, t123_5, t123_8, t123_9, t123_10, t123_13, t123_14, t123_17, t123_18, t123_21, t123_22, t123_23, t123_24, t123_25, t123_28, t123_31, t123_32, t123_35, t123_36, t123_37, t123_40, t123_41, t123_42, t123_43, t123_46, t123_49, t123_50, t123_51, t123_52, t123_53, t123_56, t123_59, t123_60, t123_63, t123_64, t123_65, t123_68, t123_69, t123_70, t123_71, t123_74, t123_77, t123_78, t123_79, t123_80, t123_81, t123_84, t123_87, t123_88, t123_91, t123_92, t123_93, t123_96, t123_97, t123_98, t123_99, t123_102, t123_105, t123_106, t123_107, t123_108, t123_110, t123_113, t123_114, t123_117, t123_118, t123_119, t123_122, t123_123, t123_124, t123_125, t123_128, t123_131, lk_s, hp_get, hp_set, uH_at, uH_ne, uH_upd, uH_swap, iZ_add, iZ_sub, iZ_mul, iZ_neg, iZ_lt, iZ_le, iZ_eq, iZ_div, iZ_of, ix_Z, gZ_map, gZ_mapI, gZ_map', le_0, le_s, sZ_map, sZ_len, bZ_0, bZ_inj, bZ_t, bZ_f, nr_i, nr_0, nr_1, nr_b, ft_i, ft_b, ft_0, ft_1, zl_0, zl_1, zl_26, mF_len, mg_0, mg_1, mg_2, mg_3, mg_4, mg_5, mg_6, mg_7, mg_8, mg_9, mg_10, mg_11, mg_12, mg_13, mg_14, mg_15, mg_16, mg_17, mg_18, mg_19, mg_20, mg_21, mg_22, mg_23, mg_24, mg_25, mg_26, mg_27, mg_28, mg_29, mg_30, mg_31, mg_32, mg_33, mg_34, mg_35, mg_36, mg_37, mg_38, ms_0, ms_1, ms_2, ms_13, ms_14, ms_15, ms_16, ms_21, ms_22, ms_23, ms_24, ms_28, ms_36, ms_37, ms_38, st_at, st_ne, st_st, st_swap, l0, hm0, e11, h43, es, -List.filter_filter, -List.getElem?_map, -List.getD_eq_getElem?_getD]
  · simp (disch := first | (refine c1_id ?_; assumption) | (refine c1_st rfl ?_; repeat (first | assumption | refine c1_st rfl ?_)) | omega) [nx_l, nx_r, nx_n, x_st, x_push, x_bin, x_div, x_un, x_dup, x_pop, x_dup2, x_goto, x_ifeq, x_ifne, x_iflt, x_ifge, x_ifgt, x_ifle, x_iceq, x_icne, x_iclt, x_icge, x_icgt, x_icle, x_ifnull, x_ifnonnull, x_ldi, x_lda, x_sti, x_sta, x_iinc, x_gf, x_pf, x_ald, x_ast, x_aln, x_len, x_cl_, x_cv, x_cs, x_rc, x_r0, x_isT, x_oi, x_rv, x_ri, x_ra, Value.category, t123_0, t123_1, t123_2, t123_5, t123_8, t123_9, t123_10, t123_13, t123_14, t123_17, t123_18, t123_21, t123_22, t123_23, t123_24, t123_25, t123_28, t123_31, t123_32, t123_35, t123_36, t123_37, t123_40, t123_41, t123_42, t123_43, t123_46, t123_49, t123_50, t123_51, t123_52, t123_53, t123_56, t123_59, t123_60, t123_63, t123_64, t123_65, t123_68, t123_69, t123_70, t123_71, t123_74, t123_77, t123_78, t123_79, t123_80, t123_81, t123_84, t123_87, t123_88, t123_91, t123_92, t123_93, t123_96, t123_97, t123_98, t123_99, t123_102, t123_105, t123_106, t123_107, t123_108, t123_110, t123_113, t123_114, t123_117, t123_118, t123_119, t123_122, t123_123, t123_124, t123_125, t123_128, t123_131, lk_s, hp_get, hp_set, uH_at, uH_ne, uH_upd, uH_swap, iZ_add, iZ_sub, iZ_mul, iZ_neg, iZ_lt, iZ_le, iZ_eq, iZ_div, iZ_of, ix_Z, gZ_map, gZ_mapI, gZ_map', le_0, le_s, sZ_map, sZ_len, bZ_0, bZ_inj, bZ_t, bZ_f, nr_i, nr_0, nr_1, nr_b, ft_i, ft_b, ft_0, ft_1, zl_0, zl_1, zl_26, mF_len, mg_0, mg_1, mg_2, mg_3, mg_4, mg_5, mg_6, mg_7, mg_8, mg_9, mg_10, mg_11, mg_12, mg_13, mg_14, mg_15, mg_16, mg_17, mg_18, mg_19, mg_20, mg_21, mg_22, mg_23, mg_24, mg_25, mg_26, mg_27, mg_28, mg_29, mg_30, mg_31, mg_32, mg_33, mg_34, mg_35, mg_36, mg_37, mg_38, ms_0, ms_1, ms_2, ms_13, ms_14, ms_15, ms_16, ms_21, ms_22, ms_23, ms_24, ms_28, ms_36, ms_37, ms_38, st_at, st_ne, st_st, st_swap, a0, -List.filter_filter, -List.getElem?_map, -List.getD_eq_getElem?_getD]
  · simp (disch := first | (refine c1_id ?_; assumption) | (refine c1_st rfl ?_; repeat (first | assumption | refine c1_st rfl ?_)) | omega) [nx_l, nx_r, nx_n, x_st, x_push, x_bin, x_div, x_un, x_dup, x_pop, x_dup2, x_goto, x_ifeq, x_ifne, x_iflt, x_ifge, x_ifgt, x_ifle, x_iceq, x_icne, x_iclt, x_icge, x_icgt, x_icle, x_ifnull, x_ifnonnull, x_ldi, x_lda, x_sti, x_sta, x_iinc, x_gf, x_pf, x_ald, x_ast, x_aln, x_len, x_cl_, x_cv, x_cs, x_rc, x_r0, x_isT, x_oi, x_rv, x_ri, x_ra, Value.category, t123_0, t123_1, t123_2, t123_5, t123_8, t123_9, t123_10, t123_13, t123_14, t123_17, t123_18, t123_21, t123_22, t123_23, t123_24, t123_25, t123_28, t123_31, t123_32, t123_35, t123_36, t123_37, t123_40, t123_41, t123_42, t123_43, t123_46, t123_49, t123_50, t123_51, t123_52, t123_53, t123_56, t123_59, t123_60, t123_63, t123_64, t123_65, t123_68, t123_69, t123_70, t123_71, t123_74, t123_77, t123_78, t123_79, t123_80, t123_81, t123_84, t123_87, t123_88, t123_91, t123_92, t123_93, t123_96, t123_97, t123_98, t123_99, t123_102, t123_105, t123_106, t123_107, t123_108, t123_110, t123_113, t123_114, t123_117, t123_118, t123_119, t123_122, t123_123, t123_124, t123_125, t123_128, t123_131, lk_s, hp_get, hp_set, uH_at, uH_ne, uH_upd, uH_swap, iZ_add, iZ_sub, iZ_mul, iZ_neg, iZ_lt, iZ_le, iZ_eq, iZ_div, iZ_of, ix_Z, gZ_map, gZ_mapI, gZ_map', le_0, le_s, sZ_map, sZ_len, bZ_0, bZ_inj, bZ_t, bZ_f, nr_i, nr_0, nr_1, nr_b, ft_i, ft_b, ft_0, ft_1, zl_0, zl_1, zl_26, mF_len, mg_0, mg_1, mg_2, mg_3, mg_4, mg_5, mg_6, mg_7, mg_8, mg_9, mg_10, mg_11, mg_12, mg_13, mg_14, mg_15, mg_16, mg_17, mg_18, mg_19, mg_20, mg_21, mg_22, mg_23, mg_24, mg_25, mg_26, mg_27, mg_28, mg_29, mg_30, mg_31, mg_32, mg_33, mg_34, mg_35, mg_36, mg_37, mg_38, ms_0, ms_1, ms_2, ms_13, ms_14, ms_15, ms_16, ms_21, ms_22, ms_23, ms_24, ms_28, ms_36, ms_37, ms_38, st_at, st_ne, st_st, st_swap, b0, -List.filter_filter, -List.getElem?_map, -List.getD_eq_getElem?_getD]
  · simp (disch := first | (refine c1_id ?_; assumption) | (refine c1_st rfl ?_; repeat (first | assumption | refine c1_st rfl ?_)) | omega) [nx_l, nx_r, nx_n, x_st, x_push, x_bin, x_div, x_un, x_dup, x_pop, x_dup2, x_goto, x_ifeq, x_ifne, x_iflt, x_ifge, x_ifgt, x_ifle, x_iceq, x_icne, x_iclt, x_icge, x_icgt, x_icle, x_ifnull, x_ifnonnull, x_ldi, x_lda, x_sti, x_sta, x_iinc, x_gf, x_pf, x_ald, x_ast, x_aln, x_len, x_cl_, x_cv, x_cs, x_rc, x_r0, x_isT, x_oi, x_rv, x_ri, x_ra, Value.category, t123_0, t123_1, t123_2, t123_5, t123_8, t123_9, t123_10, t123_13, t123_14, t123_17, t123_18, t123_21, t123_22, t123_23, t123_24, t123_25, t123_28, t123_31, t123_32, t123_35, t123_36, t123_37, t123_40, t123_41, t123_42, t123_43, t123_46, t123_49, t123_50, t123_51, t123_52, t123_53, t123_56, t123_59, t123_60, t123_63, t123_64, t123_65, t123_68, t123_69, t123_70, t123_71, t123_74, t123_77, t123_78, t123_79, t123_80, t123_81, t123_84, t123_87, t123_88, t123_91, t123_92, t123_93, t123_96, t123_97, t123_98, t123_99, t123_102, t123_105, t123_106, t123_107, t123_108, t123_110, t123_113, t123_114, t123_117, t123_118, t123_119, t123_122, t123_123, t123_124, t123_125, t123_128, t123_131, lk_s, hp_get, hp_set, uH_at, uH_ne, uH_upd, uH_swap, iZ_add, iZ_sub, iZ_mul, iZ_neg, iZ_lt, iZ_le, iZ_eq, iZ_div, iZ_of, ix_Z, gZ_map, gZ_mapI, gZ_map', le_0, le_s, sZ_map, sZ_len, bZ_0, bZ_inj, bZ_t, bZ_f, nr_i, nr_0, nr_1, nr_b, ft_i, ft_b, ft_0, ft_1, zl_0, zl_1, zl_26, mF_len, mg_0, mg_1, mg_2, mg_3, mg_4, mg_5, mg_6, mg_7, mg_8, mg_9, mg_10, mg_11, mg_12, mg_13, mg_14, mg_15, mg_16, mg_17, mg_18, mg_19, mg_20, mg_21, mg_22, mg_23, mg_24, mg_25, mg_26, mg_27, mg_28, mg_29, mg_30, mg_31, mg_32, mg_33, mg_34, mg_35, mg_36, mg_37, mg_38, ms_0, ms_1, ms_2, ms_13, ms_14, ms_15, ms_16, ms_21, ms_22, ms_23, ms_24, ms_28, ms_36, ms_37, ms_38, st_at, st_ne, st_st, st_swap, d0, -List.filter_filter, -List.getElem?_map, -List.getD_eq_getElem?_getD]
  · simp (disch := first | (refine c1_id ?_; assumption) | (refine c1_st rfl ?_; repeat (first | assumption | refine c1_st rfl ?_)) | omega) [nx_l, nx_r, nx_n, x_st, x_push, x_bin, x_div, x_un, x_dup, x_pop, x_dup2, x_goto, x_ifeq, x_ifne, x_iflt, x_ifge, x_ifgt, x_ifle, x_iceq, x_icne, x_iclt, x_icge, x_icgt, x_icle, x_ifnull, x_ifnonnull, x_ldi, x_lda, x_sti, x_sta, x_iinc, x_gf, x_pf, x_ald, x_ast, x_aln, x_len, x_cl_, x_cv, x_cs, x_rc, x_r0, x_isT, x_oi, x_rv, x_ri, x_ra, Value.category, t123_0, t123_1, t123_2, t123_5, t123_8, t123_9, t123_10, t123_13, t123_14, t123_17, t123_18, t123_21, t123_22, t123_23, t123_24, t123_25, t123_28, t123_31, t123_32, t123_35, t123_36, t123_37, t123_40, t123_41, t123_42, t123_43, t123_46, t123_49, t123_50, t123_51, t123_52, t123_53, t123_56, t123_59, t123_60, t123_63, t123_64, t123_65, t123_68, t123_69, t123_70, t123_71, t123_74, t123_77, t123_78, t123_79, t123_80, t123_81, t123_84, t123_87, t123_88, t123_91, t123_92, t123_93, t123_96, t123_97, t123_98, t123_99, t123_102, t123_105, t123_106, t123_107, t123_108, t123_110, t123_113, t123_114, t123_117, t123_118, t123_119, t123_122, t123_123, t123_124, t123_125, t123_128, t123_131, lk_s, hp_get, hp_set, uH_at, uH_ne, uH_upd, uH_swap, iZ_add, iZ_sub, iZ_mul, iZ_neg, iZ_lt, iZ_le, iZ_eq, iZ_div, iZ_of, ix_Z, gZ_map, gZ_mapI, gZ_map', le_0, le_s, sZ_map, sZ_len, bZ_0, bZ_inj, bZ_t, bZ_f, nr_i, nr_0, nr_1, nr_b, ft_i, ft_b, ft_0, ft_1, zl_0, zl_1, zl_26, mF_len, mg_0, mg_1, mg_2, mg_3, mg_4, mg_5, mg_6, mg_7, mg_8, mg_9, mg_10, mg_11, mg_12, mg_13, mg_14, mg_15, mg_16, mg_17, mg_18, mg_19, mg_20, mg_21, mg_22, mg_23, mg_24, mg_25, mg_26, mg_27, mg_28, mg_29, mg_30, mg_31, mg_32, mg_33, mg_34, mg_35, mg_36, mg_37, mg_38, ms_0, ms_1, ms_2, ms_13, ms_14, ms_15, ms_16, ms_21, ms_22, ms_23, ms_24, ms_28, ms_36, ms_37, ms_38, st_at, st_ne, st_st, st_swap, -List.filter_filter, -List.getElem?_map, -List.getD_eq_getElem?_getD]
  · rw [F5 j (by
      unfold ksT
      simp only [List.mem_cons, List.not_mem_nil, or_false]
      omega)]
    exact Nat.le_refl _
def alF (f : Int → Bool) : Nat → Int → Bool
  | 0, _ => true
  | r + 1, k => f k && alF f r (k + 1)
theorem alF_iff (f : Int → Bool) : ∀ (r : Nat) (k : Int), alF f r k = true ↔ ∀ i : Nat, i < r → f (k + i) = true
  | 0, k => ⟨fun _ i hi => absurd hi (Nat.not_lt_zero _), fun _ => rfl⟩
  | r + 1, k => by
    show (f k && alF f r (k + 1)) = true ↔ _
    rw [Bool.and_eq_true, alF_iff f r (k + 1)]
    constructor
    · intro h i hi
      cases i with
      | zero =>
        rw [show k + ((0 : Nat) : Int) = k by omega]
        exact h.1
      | succ i =>
        rw [show k + ((i + 1 : Nat) : Int) = k + 1 + (i : Int) by omega]
        exact h.2 i (by omega)
    · intro h
      refine ⟨?_, fun i hi => ?_⟩
      · have := h 0 (by omega)
        rw [show k + ((0 : Nat) : Int) = k by omega] at this
        exact this
      · have := h (i + 1) (by omega)
        rw [show k + ((i + 1 : Nat) : Int) = k + 1 + (i : Int) by omega] at this
        exact this
theorem l124_35 (d : Nat) (hN : 53 ≤ N) (hm : w 27 = .inr (8, mF m)) (hMi : w 41 = cI 1 Mi) (s1 : Mi.length = 14) (hU : w 44 = cI 1 U) (s2 : U.length = 8) (hSa : w 39 = cI 0 Sa) (s3 : Sa.length = 14) (hT : w 43 = cI 0 T) (s4 : T.length = 8) (h8 : m 8 ≤ 6) (rU : ∀ k : Int, 0 ≤ k → k < m 8 → -2147483648 ≤ gZ U k ∧ gZ U k < 2147483648) (rM : ∀ k, -2147483648 ≤ gZ Mi k ∧ gZ Mi k < 2147483648) (rS : ∀ k : Int, 0 ≤ k → k < m 8 → -2147483648 ≤ gZ Sa k ∧ gZ Sa k < 2147483648) (rT : ∀ k : Int, 0 ≤ k → k < m 8 → -2147483648 ≤ gZ T k ∧ gZ T k < 2147483648) : ∀ (r : Nat) (k : Int) (s : Bool) (lv : xL), k + r = m 8 → 0 ≤ k → c1 lv → x_lk lv 0 = some (.ref 30) → x_lk lv 1 = some (.int (iZ (bZ s))) → x_lk lv 2 = some (.int (iZ k)) → ∃ lv', c1 lv' ∧ x_lk lv' 0 = some (.ref 30) ∧ x_lk lv' 1 = some (.int (iZ (bZ (s && alF (fun k => decide (gZ Mi k = gZ U k) && decide (gZ Sa k = gZ T k)) r k)))) ∧ ∀ res, Gx q_k124 d 89 (lv', [], hp w N) res → Gx q_k124 d 35 (lv, [], hp w N) res := by
  intro r
  induction r with
  | zero =>
    intro k s lv hk h0 hc l0 l1 l2
    refine ⟨lv, hc, l0, by rw [l1]; simp [alF], fun res hg => Gx.run 40 Cs.tt (fun C _ => ?_) hg⟩
    have b1 : m 8 ≤ k := by omega
    simp (disch := first | (refine c1_id ?_; assumption) | (refine c1_st rfl ?_; repeat (first | assumption | refine c1_st rfl ?_)) | omega) [nx_l, nx_r, nx_n, x_st, x_push, x_bin, x_div, x_un, x_dup, x_pop, x_dup2, x_goto, x_ifeq, x_ifne, x_iflt, x_ifge, x_ifgt, x_ifle, x_iceq, x_icne, x_iclt, x_icge, x_icgt, x_icle, x_ifnull, x_ifnonnull, x_ldi, x_lda, x_sti, x_sta, x_iinc, x_gf, x_pf, x_ald, x_ast, x_aln, x_len, x_cl_, x_cv, x_cs, x_rc, x_r0, x_isT, x_oi, x_rv, x_ri, x_ra, Value.category, t124_0, t124_1, t124_4, t124_5, t124_8, t124_11, t124_12, t124_15, t124_16, t124_19, t124_20, t124_23, t124_24, t124_27, t124_28, t124_31, t124_32, t124_33, t124_34, t124_35, t124_36, t124_37, t124_40, t124_43, t124_44, t124_47, t124_48, t124_51, t124_52, t124_53, t124_54, t124_57, t124_58, t124_59, t124_62, t124_63, t124_66, t124_67, t124_68, t124_69, t124_72, t124_73, t124_74, t124_77, t124_78, t124_81, t124_82, t124_83, t124_86, t124_89, t124_90, t124_91, t124_92, t124_93, t124_96, t124_99, t124_100, t124_103, t124_104, t124_107, t124_108, t124_109, t124_110, t124_113, t124_114, t124_115, t124_118, t124_119, t124_122, t124_123, t124_124, t124_127, t124_130, t124_131, lk_s, hp_get, hp_set, uH_at, uH_ne, uH_upd, uH_swap, iZ_add, iZ_sub, iZ_mul, iZ_neg, iZ_lt, iZ_le, iZ_eq, iZ_div, iZ_of, ix_Z, gZ_map, gZ_mapI, gZ_map', le_0, le_s, sZ_map, sZ_len, bZ_0, bZ_inj, bZ_t, bZ_f, nr_i, nr_0, nr_1, nr_b, ft_i, ft_b, ft_0, ft_1, zl_0, zl_1, mF_len, mg_0, mg_1, mg_2, mg_3, mg_4, mg_5, mg_6, mg_7, mg_8, mg_9, mg_10, mg_11, mg_12, mg_13, mg_14, mg_15, mg_16, mg_17, mg_18, mg_19, mg_20, mg_21, mg_22, mg_23, mg_24, mg_25, mg_26, mg_27, mg_28, mg_29, mg_30, mg_31, mg_32, mg_33, mg_34, mg_35, mg_36, mg_37, mg_38, ms_0, ms_1, ms_2, ms_13, ms_14, ms_15, ms_16, ms_21, ms_22, ms_23, ms_24, ms_28, ms_36, ms_37, ms_38, st_at, st_ne, st_st, st_swap, l0, l1, l2, b1, hm, hMi, hU, hSa, hT, -List.filter_filter, -List.getElem?_map, -List.getD_eq_getElem?_getD]
  | succ r ih =>
    intro k s lv hk h0 hc l0 l1 l2
    have b1 : ¬ m 8 ≤ k := by omega
    cases s with
    | false =>
      refine ⟨lv, hc, l0, by rw [l1]; simp, fun res hg => Gx.run 40 Cs.tt (fun C _ => ?_) hg⟩
      simp (disch := first | (refine c1_id ?_; assumption) | (refine c1_st rfl ?_; repeat (first | assumption | refine c1_st rfl ?_)) | omega) [nx_l, nx_r, nx_n, x_st, x_push, x_bin, x_div, x_un, x_dup, x_pop, x_dup2, x_goto, x_ifeq, x_ifne, x_iflt, x_ifge, x_ifgt, x_ifle, x_iceq, x_icne, x_iclt, x_icge, x_icgt, x_icle, x_ifnull, x_ifnonnull, x_ldi, x_lda, x_sti, x_sta, x_iinc, x_gf, x_pf, x_ald, x_ast, x_aln, x_len, x_cl_, x_cv, x_cs, x_rc, x_r0, x_isT, x_oi, x_rv, x_ri, x_ra, Value.category, t124_0, t124_1, t124_4, t124_5, t124_8, t124_11, t124_12, t124_15, t124_16, t124_19, t124_20, t124_23, t124_24, t124_27, t124_28, t124_31, t124_32, t124_33, t124_34, t124_35, t124_36, t124_37, t124_40, t124_43, t124_44, t124_47, t124_48, t124_51, t124_52, t124_53, t124_54, t124_57, t124_58, t124_59, t124_62, t124_63, t124_66, t124_67, t124_68, t124_69, t124_72, t124_73, t124_74, t124_77, t124_78, t124_81, t124_82, t124_83, t124_86, t124_89, t124_90, t124_91, t124_92, t124_93, t124_96, t124_99, t124_100, t124_103, t124_104, t124_107, t124_108, t124_109, t124_110, t124_113, t124_114, t124_115, t124_118, t124_119, t124_122, t124_123, t124_124, t124_127, t124_130, t124_131, lk_s, hp_get, hp_set, uH_at, uH_ne, uH_upd, uH_swap, iZ_add, iZ_sub, iZ_mul, iZ_neg, iZ_lt, iZ_le, iZ_eq, iZ_div, iZ_of, ix_Z, gZ_map, gZ_mapI, gZ_map', le_0, le_s, sZ_map, sZ_len, bZ_0, bZ_inj, bZ_t, bZ_f, nr_i, nr_0, nr_1, nr_b, ft_i, ft_b, ft_0, ft_1, zl_0, zl_1, mF_len, mg_0, mg_1, mg_2, mg_3, mg_4, mg_5, mg_6, mg_7, mg_8, mg_9, mg_10, mg_11, mg_12, mg_13, mg_14, mg_15, mg_16, mg_17, mg_18, mg_19, mg_20, mg_21, mg_22, mg_23, mg_24, mg_25, mg_26, mg_27, mg_28, mg_29, mg_30, mg_31, mg_32, mg_33, mg_34, mg_35, mg_36, mg_37, mg_38, ms_0, ms_1, ms_2, ms_13, ms_14, ms_15, ms_16, ms_21, ms_22, ms_23, ms_24, ms_28, ms_36, ms_37, ms_38, st_at, st_ne, st_st, st_swap, l0, l1, l2, b1, hm, hMi, hU, hSa, hT, -List.filter_filter, -List.getElem?_map, -List.getD_eq_getElem?_getD]
    | true =>
      obtain ⟨v, hv⟩ : ∃ v, v = (fun k => decide (gZ Mi k = gZ U k) && decide (gZ Sa k = gZ T k)) k := ⟨_, rfl⟩
      have C1 := c1_st (i := 1) (v := .int (iZ (bZ v))) rfl hc
      have C2 := c1_st (i := 2) (v := .int (iZ (k + 1))) rfl C1
      obtain ⟨lv', h1, h2, h3, h4⟩ := ih (k + 1) v _ (by omega) (by omega) C2 (by rw [lk_s C1, lk_s hc]; exact l0) (by rw [lk_s C1, lk_s hc]; rfl) (by rw [lk_s C1]; rfl)
      refine ⟨lv', h1, h2, by rw [h3, hv]; rfl, fun res hg => ?_⟩
      refine Gx.run 60 Cs.tt (fun C _ => ?_) (h4 res hg)
      subst hv
      have q1 := rU k h0 (by omega)
      have q2 := rM k
      have q3 := rS k h0 (by omega)
      have q4 := rT k h0 (by omega)
      by_cases i1 : gZ Mi k = gZ U k
      · skip
        by_cases i2 : gZ Sa k = gZ T k
        · skip
          have ev : (fun k => decide (gZ Mi k = gZ U k) && decide (gZ Sa k = gZ T k)) k = true := by simp [i1, i2]
          rw [ev]
          simp (disch := first | (refine c1_id ?_; assumption) | (refine c1_st rfl ?_; repeat (first | assumption | refine c1_st rfl ?_)) | omega) [nx_l, nx_r, nx_n, x_st, x_push, x_bin, x_div, x_un, x_dup, x_pop, x_dup2, x_goto, x_ifeq, x_ifne, x_iflt, x_ifge, x_ifgt, x_ifle, x_iceq, x_icne, x_iclt, x_icge, x_icgt, x_icle, x_ifnull, x_ifnonnull, x_ldi, x_lda, x_sti, x_sta, x_iinc, x_gf, x_pf, x_ald, x_ast, x_aln, x_len, x_cl_, x_cv, x_cs, x_rc, x_r0, x_isT, x_oi, x_rv, x_ri, x_ra, Value.category, t124_0, t124_1, t124_4, t124_5, t124_8, t124_11, t124_12, t124_15, t124_16, t124_19, t124_20, t124_23, t124_24, t124_27, t124_28, t124_31, t124_32, t124_33, t124_34, t124_35, t124_36, t124_37, t124_40, t124_43, t124_44, t124_47, t124_48, t124_51, t124_52, t124_53, t124_54, t124_57, t124_58, t124_59, t124_62, t124_63, t124_66, t124_67, t124_68, t124_69, t124_72, t124_73, t124_74, t124_77, t124_78, t124_81, t124_82, t124_83, t124_86, t124_89, t124_90, t124_91, t124_92, t124_93, t124_96, t124_99, t124_100, t124_103, t124_104, t124_107, t124_108, t124_109, t124_110, t124_113, t124_114, t124_115, t124_118, t124_119, t124_122, t124_123, t124_124, t124_127, t124_130, t124_131, lk_s, hp_get, hp_set, uH_at, uH_ne, uH_upd, uH_swap, iZ_add, iZ_sub, iZ_mul, iZ_neg, iZ_lt, iZ_le, iZ_eq, iZ_div, iZ_of, ix_Z, gZ_map, gZ_mapI, gZ_map', le_0, le_s, sZ_map, sZ_len, bZ_0, bZ_inj, bZ_t, bZ_f, nr_i, nr_0, nr_1, nr_b, ft_i, ft_b, ft_0, ft_1, zl_0, zl_1, mF_len, mg_0, mg_1, mg_2, mg_3, mg_4, mg_5, mg_6, mg_7, mg_8, mg_9, mg_10, mg_11, mg_12, mg_13, mg_14, mg_15, mg_16, mg_17, mg_18, mg_19, mg_20, mg_21, mg_22, mg_23, mg_24, mg_25, mg_26, mg_27, mg_28, mg_29, mg_30, mg_31, mg_32, mg_33, mg_34, mg_35, mg_36, mg_37, mg_38, ms_0, ms_1, ms_2, ms_13, ms_14, ms_15, ms_16, ms_21, ms_22, ms_23, ms_24, ms_28, ms_36, ms_37, ms_38, st_at, st_ne, st_st, st_swap, l0, l1, l2, b1, hm, hMi, hU, hSa, hT, i1, i2, -List.filter_filter, -List.getElem?_map, -List.getD_eq_getElem?_getD]
        · have ev : (fun k => decide (gZ Mi k = gZ U k) && decide (gZ Sa k = gZ T k)) k = false := by simp [i1, i2]
          rw [ev]
          simp (disch := first | (refine c1_id ?_; assumption) | (refine c1_st rfl ?_; repeat (first | assumption | refine c1_st rfl ?_)) | omega) [nx_l, nx_r, nx_n, x_st, x_push, x_bin, x_div, x_un, x_dup, x_pop, x_dup2, x_goto, x_ifeq, x_ifne, x_iflt, x_ifge, x_ifgt, x_ifle, x_iceq, x_icne, x_iclt, x_icge, x_icgt, x_icle, x_ifnull, x_ifnonnull, x_ldi, x_lda, x_sti, x_sta, x_iinc, x_gf, x_pf, x_ald, x_ast, x_aln, x_len, x_cl_, x_cv, x_cs, x_rc, x_r0, x_isT, x_oi, x_rv, x_ri, x_ra, Value.category, t124_0, t124_1, t124_4, t124_5, t124_8, t124_11, t124_12, t124_15, t124_16, t124_19, t124_20, t124_23, t124_24, t124_27, t124_28, t124_31, t124_32, t124_33, t124_34, t124_35, t124_36, t124_37, t124_40, t124_43, t124_44, t124_47, t124_48, t124_51, t124_52, t124_53, t124_54, t124_57, t124_58, t124_59, t124_62, t124_63, t124_66, t124_67, t124_68, t124_69, t124_72, t124_73, t124_74, t124_77, t124_78, t124_81, t124_82, t124_83, t124_86, t124_89, t124_90, t124_91, t124_92, t124_93, t124_96, t124_99, t124_100, t124_103, t124_104, t124_107, t124_108, t124_109, t124_110, t124_113, t124_114, t124_115, t124_118, t124_119, t124_122, t124_123, t124_124, t124_127, t124_130, t124_131, lk_s, hp_get, hp_set, uH_at, uH_ne, uH_upd, uH_swap, iZ_add, iZ_sub, iZ_mul, iZ_neg, iZ_lt, iZ_le, iZ_eq, iZ_div, iZ_of, ix_Z, gZ_map, gZ_mapI, gZ_map', le_0, le_s, sZ_map, sZ_len, bZ_0, bZ_inj, bZ_t, bZ_f, nr_i, nr_0, nr_1, nr_b, ft_i, ft_b, ft_0, ft_1, zl_0, zl_1, mF_len, mg_0, mg_1, mg_2, mg_3, mg_4, mg_5, mg_6, mg_7, mg_8, mg_9, mg_10, mg_11, mg_12, mg_13, mg_14, mg_15, mg_16, mg_17, mg_18, mg_19, mg_20, mg_21, mg_22, mg_23, mg_24, mg_25, mg_26, mg_27, mg_28, mg_29, mg_30, mg_31, mg_32, mg_33, mg_34, mg_35, mg_36, mg_37, mg_38, ms_0, ms_1, ms_2, ms_13, ms_14, ms_15, ms_16, ms_21, ms_22, ms_23, ms_24, ms_28, ms_36, ms_37, ms_38, st_at, st_ne, st_st, st_swap, l0, l1, l2, b1, hm, hMi, hU, hSa, hT, i1, i2, -List.filter_filter, -List.getElem?_map, -List.getD_eq_getElem?_getD]
      · have ev : (fun k => decide (gZ Mi k = gZ U k) && decide (gZ Sa k = gZ T k)) k = false := by simp [i1]
        rw [ev]
        simp (disch := first | (refine c1_id ?_; assumption) | (refine c1_st rfl ?_; repeat (first | assumption | refine c1_st rfl ?_)) | omega) [nx_l, nx_r, nx_n, x_st, x_push, x_bin, x_div, x_un, x_dup, x_pop, x_dup2, x_goto, x_ifeq, x_ifne, x_iflt, x_ifge, x_ifgt, x_ifle, x_iceq, x_icne, x_iclt, x_icge, x_icgt, x_icle, x_ifnull, x_ifnonnull, x_ldi, x_lda, x_sti, x_sta, x_iinc, x_gf, x_pf, x_ald, x_ast, x_aln, x_len, x_cl_, x_cv, x_cs, x_rc, x_r0, x_isT, x_oi, x_rv, x_ri, x_ra, Value.category, t124_0, t124_1, t124_4, t124_5, t124_8, t124_11, t124_12, t124_15, t124_16, t124_19, t124_20, t124_23, t124_24, t124_27, t124_28, t124_31, t124_32, t124_33, t124_34, t124_35, t124_36, t124_37, t124_40, t124_43, t124_44, t124_47, t124_48, t124_51, t124_52, t124_53, t124_54, t124_57, t124_58, t124_59, t124_62, t124_63, t124_66, t124_67, t124_68, t124_69, t124_72, t124_73, t124_74, t124_77, t124_78, t124_81, t124_82, t124_83, t124_86, t124_89, t124_90, t124_91, t124_92, t124_93, t124_96, t124_99, t124_100, t124_103, t124_104, t124_107, t124_108, t124_109, t124_110, t124_113, t124_114, t124_115, t124_118, t124_119, t124_122, t124_123, t124_124, t124_127, t124_130, t124_131, lk_s, hp_get, hp_set, uH_at, uH_ne, uH_upd, uH_swap, iZ_add, iZ_sub, iZ_mul, iZ_neg, iZ_lt, iZ_le, iZ_eq, iZ_div, iZ_of, ix_Z, gZ_map, gZ_mapI, gZ_map', le_0, le_s, sZ_map, sZ_len, bZ_0, bZ_inj, bZ_t, bZ_f, nr_i, nr_0, nr_1, nr_b, ft_i, ft_b, ft_0, ft_1, zl_0, zl_1, mF_len, mg_0, mg_1, mg_2, mg_3, mg_4, mg_5, mg_6, mg_7, mg_8, mg_9, mg_10, mg_11, mg_12, mg_13, mg_14, mg_15, mg_16, mg_17, mg_18, mg_19, mg_20, mg_21, mg_22, mg_23, mg_24, mg_25, mg_26, mg_27, mg_28, mg_29, mg_30, mg_31, mg_32, mg_33, mg_34, mg_35, mg_36, mg_37, mg_38, ms_0, ms_1, ms_2, ms_13, ms_14, ms_15, ms_16, ms_21, ms_22, ms_23, ms_24, ms_28, ms_36, ms_37, ms_38, st_at, st_ne, st_st, st_swap, l0, l1, l2, b1, hm, hMi, hU, hSa, hT, i1, -List.filter_filter, -List.getElem?_map, -List.getD_eq_getElem?_getD]
theorem l124_91 (d : Nat) (hN : 53 ≤ N) (hm : w 27 = .inr (8, mF m)) (hR : w 38 = cI 0 R) (s1 : R.length = 600) (hS : w 42 = cI 0 S) (s2 : S.length = 60) (h7 : m 7 ≤ 40) (rR : ∀ k : Int, 0 ≤ k → k < m 7 → -2147483648 ≤ gZ R k ∧ gZ R k < 2147483648) (rS : ∀ k : Int, 0 ≤ k → k < m 7 → -2147483648 ≤ gZ S k ∧ gZ S k < 2147483648) : ∀ (r : Nat) (k : Int) (s : Bool) (lv : xL), k + r = m 7 → 0 ≤ k → c1 lv → x_lk lv 0 = some (.ref 30) → x_lk lv 1 = some (.int (iZ (bZ s))) → x_lk lv 2 = some (.int (iZ k)) → ∃ lv', c1 lv' ∧ x_lk lv' 0 = some (.ref 30) ∧ x_lk lv' 1 = some (.int (iZ (bZ (s && alF (fun k => decide (gZ R k = gZ S k)) r k)))) ∧ ∀ res, Gx q_k124 d 130 (lv', [], hp w N) res → Gx q_k124 d 91 (lv, [], hp w N) res := by
  intro r
  induction r with
  | zero =>
    intro k s lv hk h0 hc l0 l1 l2
    refine ⟨lv, hc, l0, by rw [l1]; simp [alF], fun res hg => Gx.run 40 Cs.tt (fun C _ => ?_) hg⟩
    have b1 : m 7 ≤ k := by omega
    simp (disch := first | (refine c1_id ?_; assumption) | (refine c1_st rfl ?_; repeat (first | assumption | refine c1_st rfl ?_)) | omega) [nx_l, nx_r, nx_n, x_st, x_push, x_bin, x_div, x_un, x_dup, x_pop, x_dup2, x_goto, x_ifeq, x_ifne, x_iflt, x_ifge, x_ifgt, x_ifle, x_iceq, x_icne, x_iclt, x_icge, x_icgt, x_icle, x_ifnull, x_ifnonnull, x_ldi, x_lda, x_sti, x_sta, x_iinc, x_gf, x_pf, x_ald, x_ast, x_aln, x_len, x_cl_, x_cv, x_cs, x_rc, x_r0, x_isT, x_oi, x_rv, x_ri, x_ra, Value.category, t124_0, t124_1, t124_4, t124_5, t124_8, t124_11, t124_12, t124_15, t124_16, t124_19, t124_20, t124_23, t124_24, t124_27, t124_28, t124_31, t124_32, t124_33, t124_34, t124_35, t124_36, t124_37, t124_40, t124_43, t124_44, t124_47, t124_48, t124_51, t124_52, t124_53, t124_54, t124_57, t124_58, t124_59, t124_62, t124_63, t124_66, t124_67, t124_68, t124_69, t124_72, t124_73, t124_74, t124_77, t124_78, t124_81, t124_82, t124_83, t124_86, t124_89, t124_90, t124_91, t124_92, t124_93, t124_96, t124_99, t124_100, t124_103, t124_104, t124_107, t124_108, t124_109, t124_110, t124_113, t124_114, t124_115, t124_118, t124_119, t124_122, t124_123, t124_124, t124_127, t124_130, t124_131, lk_s, hp_get, hp_set, uH_at, uH_ne, uH_upd, uH_swap, iZ_add, iZ_sub, iZ_mul, iZ_neg, iZ_lt, iZ_le, iZ_eq, iZ_div, iZ_of, ix_Z, gZ_map, gZ_mapI, gZ_map', le_0, le_s, sZ_map, sZ_len, bZ_0, bZ_inj, bZ_t, bZ_f, nr_i, nr_0, nr_1, nr_b, ft_i, ft_b, ft_0, ft_1, zl_0, zl_1, mF_len, mg_0, mg_1, mg_2, mg_3, mg_4, mg_5, mg_6, mg_7, mg_8, mg_9, mg_10, mg_11, mg_12, mg_13, mg_14, mg_15, mg_16, mg_17, mg_18, mg_19, mg_20, mg_21, mg_22, mg_23, mg_24, mg_25, mg_26, mg_27, mg_28, mg_29, mg_30, mg_31, mg_32, mg_33, mg_34, mg_35, mg_36, mg_37, mg_38, ms_0, ms_1, ms_2, ms_13, ms_14, ms_15, ms_16, ms_21, ms_22, ms_23, ms_24, ms_28, ms_36, ms_37, ms_38, st_at, st_ne, st_st, st_swap, l0, l1, l2, b1, hm, hR, hS, -List.filter_filter, -List.getElem?_map, -List.getD_eq_getElem?_getD]
  | succ r ih =>
    intro k s lv hk h0 hc l0 l1 l2
    have b1 : ¬ m 7 ≤ k := by omega
    cases s with
    | false =>
      refine ⟨lv, hc, l0, by rw [l1]; simp, fun res hg => Gx.run 40 Cs.tt (fun C _ => ?_) hg⟩
      simp (disch := first | (refine c1_id ?_; assumption) | (refine c1_st rfl ?_; repeat (first | assumption | refine c1_st rfl ?_)) | omega) [nx_l, nx_r, nx_n, x_st, x_push, x_bin, x_div, x_un, x_dup, x_pop, x_dup2, x_goto, x_ifeq, x_ifne, x_iflt, x_ifge, x_ifgt, x_ifle, x_iceq, x_icne, x_iclt, x_icge, x_icgt, x_icle, x_ifnull, x_ifnonnull, x_ldi, x_lda, x_sti, x_sta, x_iinc, x_gf, x_pf, x_ald, x_ast, x_aln, x_len, x_cl_, x_cv, x_cs, x_rc, x_r0, x_isT, x_oi, x_rv, x_ri, x_ra, Value.category, t124_0, t124_1, t124_4, t124_5, t124_8, t124_11, t124_12, t124_15, t124_16, t124_19, t124_20, t124_23, t124_24, t124_27, t124_28, t124_31, t124_32, t124_33, t124_34, t124_35, t124_36, t124_37, t124_40, t124_43, t124_44, t124_47, t124_48, t124_51, t124_52, t124_53, t124_54, t124_57, t124_58, t124_59, t124_62, t124_63, t124_66, t124_67, t124_68, t124_69, t124_72, t124_73, t124_74, t124_77, t124_78, t124_81, t124_82, t124_83, t124_86, t124_89, t124_90, t124_91, t124_92, t124_93, t124_96, t124_99, t124_100, t124_103, t124_104, t124_107, t124_108, t124_109, t124_110, t124_113, t124_114, t124_115, t124_118, t124_119, t124_122, t124_123, t124_124, t124_127, t124_130, t124_131, lk_s, hp_get, hp_set, uH_at, uH_ne, uH_upd, uH_swap, iZ_add, iZ_sub, iZ_mul, iZ_neg, iZ_lt, iZ_le, iZ_eq, iZ_div, iZ_of, ix_Z, gZ_map, gZ_mapI, gZ_map', le_0, le_s, sZ_map, sZ_len, bZ_0, bZ_inj, bZ_t, bZ_f, nr_i, nr_0, nr_1, nr_b, ft_i, ft_b, ft_0, ft_1, zl_0, zl_1, mF_len, mg_0, mg_1, mg_2, mg_3, mg_4, mg_5, mg_6, mg_7, mg_8, mg_9, mg_10, mg_11, mg_12, mg_13, mg_14, mg_15, mg_16, mg_17, mg_18, mg_19, mg_20, mg_21, mg_22, mg_23, mg_24, mg_25, mg_26, mg_27, mg_28, mg_29, mg_30, mg_31, mg_32, mg_33, mg_34, mg_35, mg_36, mg_37, mg_38, ms_0, ms_1, ms_2, ms_13, ms_14, ms_15, ms_16, ms_21, ms_22, ms_23, ms_24, ms_28, ms_36, ms_37, ms_38, st_at, st_ne, st_st, st_swap, l0, l1, l2, b1, hm, hR, hS, -List.filter_filter, -List.getElem?_map, -List.getD_eq_getElem?_getD]
    | true =>
      obtain ⟨v, hv⟩ : ∃ v, v = (fun k => decide (gZ R k = gZ S k)) k := ⟨_, rfl⟩
      have C1 := c1_st (i := 1) (v := .int (iZ (bZ v))) rfl hc
      have C2 := c1_st (i := 2) (v := .int (iZ (k + 1))) rfl C1
      obtain ⟨lv', h1, h2, h3, h4⟩ := ih (k + 1) v _ (by omega) (by omega) C2 (by rw [lk_s C1, lk_s hc]; exact l0) (by rw [lk_s C1, lk_s hc]; rfl) (by rw [lk_s C1]; rfl)
      refine ⟨lv', h1, h2, by rw [h3, hv]; rfl, fun res hg => ?_⟩
      refine Gx.run 60 Cs.tt (fun C _ => ?_) (h4 res hg)
      subst hv
      have q3 := rR k h0 (by omega)
      have q4 := rS k h0 (by omega)
      by_cases i1 : gZ R k = gZ S k
      · skip
        have ev : (fun k => decide (gZ R k = gZ S k)) k = true := by simp [i1]
        rw [ev]
        simp (disch := first | (refine c1_id ?_; assumption) | (refine c1_st rfl ?_; repeat (first | assumption | refine c1_st rfl ?_)) | omega) [nx_l, nx_r, nx_n, x_st, x_push, x_bin, x_div, x_un, x_dup, x_pop, x_dup2, x_goto, x_ifeq, x_ifne, x_iflt, x_ifge, x_ifgt, x_ifle, x_iceq, x_icne, x_iclt, x_icge, x_icgt, x_icle, x_ifnull, x_ifnonnull, x_ldi, x_lda, x_sti, x_sta, x_iinc, x_gf, x_pf, x_ald, x_ast, x_aln, x_len, x_cl_, x_cv, x_cs, x_rc, x_r0, x_isT, x_oi, x_rv, x_ri, x_ra, Value.category, t124_0, t124_1, t124_4, t124_5, t124_8, t124_11, t124_12, t124_15, t124_16, t124_19, t124_20, t124_23, t124_24, t124_27, t124_28, t124_31, t124_32, t124_33, t124_34, t124_35, t124_36, t124_37, t124_40, t124_43, t124_44, t124_47, t124_48, t124_51, t124_52, t124_53, t124_54, t124_57, t124_58, t124_59, t124_62, t124_63, t124_66, t124_67, t124_68, t124_69, t124_72, t124_73, t124_74, t124_77, t124_78, t124_81, t124_82, t124_83, t124_86, t124_89, t124_90, t124_91, t124_92, t124_93, t124_96, t124_99, t124_100, t124_103, t124_104, t124_107, t124_108, t124_109, t124_110, t124_113, t124_114, t124_115, t124_118, t124_119, t124_122, t124_123, t124_124, t124_127, t124_130, t124_131, lk_s, hp_get, hp_set, uH_at, uH_ne, uH_upd, uH_swap, iZ_add, iZ_sub, iZ_mul, iZ_neg, iZ_lt, iZ_le, iZ_eq, iZ_div, iZ_of, ix_Z, gZ_map, gZ_mapI, gZ_map', le_0, le_s, sZ_map, sZ_len, bZ_0, bZ_inj, bZ_t, bZ_f, nr_i, nr_0, nr_1, nr_b, ft_i, ft_b, ft_0, ft_1, zl_0, zl_1, mF_len, mg_0, mg_1, mg_2, mg_3, mg_4, mg_5, mg_6, mg_7, mg_8, mg_9, mg_10, mg_11, mg_12, mg_13, mg_14, mg_15, mg_16, mg_17, mg_18, mg_19, mg_20, mg_21, mg_22, mg_23, mg_24, mg_25, mg_26, mg_27, mg_28, mg_29, mg_30, mg_31, mg_32, mg_33, mg_34, mg_35, mg_36, mg_37, mg_38, ms_0, ms_1, ms_2, ms_13, ms_14, ms_15, ms_16, ms_21, ms_22, ms_23, ms_24, ms_28, ms_36, ms_37, ms_38, st_at, st_ne, st_st, st_swap, l0, l1, l2, b1, hm, hR, hS, i1, -List.filter_filter, -List.getElem?_map, -List.getD_eq_getElem?_getD]
      · have ev : (fun k => decide (gZ R k = gZ S k)) k = false := by simp [i1]
        rw [ev]
        simp (disch := first | (refine c1_id ?_; assumption) | (refine c1_st rfl ?_; repeat (first | assumption | refine c1_st rfl ?_)) | omega) [nx_l, nx_r, nx_n, x_st, x_push, x_bin, x_div, x_un, x_dup, x_pop, x_dup2, x_goto, x_ifeq, x_ifne, x_iflt, x_ifge, x_ifgt, x_ifle, x_iceq, x_icne, x_iclt, x_icge, x_icgt, x_icle, x_ifnull, x_ifnonnull, x_ldi, x_lda, x_sti, x_sta, x_iinc, x_gf, x_pf, x_ald, x_ast, x_aln, x_len, x_cl_, x_cv, x_cs, x_rc, x_r0, x_isT, x_oi, x_rv, x_ri, x_ra, Value.category, t124_0, t124_1, t124_4, t124_5, t124_8, t124_11, t124_12, t124_15, t124_16, t124_19, t124_20, t124_23, t124_24, t124_27, t124_28, t124_31, t124_32, t124_33, t124_34, t124_35, t124_36, t124_37, t124_40, t124_43, t124_44, t124_47, t124_48, t124_51, t124_52, t124_53, t124_54, t124_57, t124_58, t124_59, t124_62, t124_63, t124_66, t124_67, t124_68, t124_69, t124_72, t124_73, t124_74, t124_77, t124_78, t124_81, t124_82, t124_83, t124_86, t124_89, t124_90, t124_91, t124_92, t124_93, t124_96, t124_99, t124_100, t124_103, t124_104, t124_107, t124_108, t124_109, t124_110, t124_113, t124_114, t124_115, t124_118, t124_119, t124_122, t124_123, t124_124, t124_127, t124_130, t124_131, lk_s, hp_get, hp_set, uH_at, uH_ne, uH_upd, uH_swap, iZ_add, iZ_sub, iZ_mul, iZ_neg, iZ_lt, iZ_le, iZ_eq, iZ_div, iZ_of, ix_Z, gZ_map, gZ_mapI, gZ_map', le_0, le_s, sZ_map, sZ_len, bZ_0, bZ_inj, bZ_t, bZ_f, nr_i, nr_0, nr_1, nr_b, ft_i, ft_b, ft_0, ft_1, zl_0, zl_1, mF_len, mg_0, mg_1, mg_2, mg_3, mg_4, mg_5, mg_6, mg_7, mg_8, mg_9, mg_10, mg_11, mg_12, mg_13, mg_14, mg_15, mg_16, mg_17, mg_18, mg_19, mg_20, mg_21, mg_22, mg_23, mg_24, mg_25, mg_26, mg_27, mg_28, mg_29, mg_30, mg_31, mg_32, mg_33, mg_34, mg_35, mg_36, mg_37, mg_38, ms_0, ms_1, ms_2, ms_13, ms_14, ms_15, ms_16, ms_21, ms_22, ms_23, ms_24, ms_28, ms_36, ms_37, ms_38, st_at, st_ne, st_st, st_swap, l0, l1, l2, b1, hm, hR, hS, i1, -List.filter_filter, -List.getElem?_map, -List.getD_eq_getElem?_getD]
theorem RW_eq {R Sa Mi S T U : List Int} (h : RW C R Sa Mi) (g : RW E S T U) (e : C.length = E.length) (ef : (flt C).length = (flt E).length) (h1 : ∀ k : Nat, k < C.length → gZ Mi k = gZ U k ∧ gZ Sa k = gZ T k) (h2 : ∀ j : Nat, j < (flt C).length → gZ R j = gZ S j) : C = E := by
  have es : ∀ k : Nat, k ≤ C.length → stC C k = stC E k := fun k hk => by
    by_cases hk2 : k < C.length
    · have a := (h1 k hk2).2
      rw [h.2.1 k hk, g.2.1 k (by omega)] at a
      omega
    · have : k = C.length := by omega
      subst this
      rw [stC_all, e, stC_all, ef]
  have efl : flt C = flt E := getD_ext ef (fun j hj => by
    rw [← h.1 j (by omega), ← g.1 j (by omega)]
    exact h2 j (by omega))
  apply List.ext_getElem e
  intro k h3 h4
  have a := lC_mem h3
  have e1 : C[k] = lC C k := by
    unfold lC
    rw [List.getD_eq_getElem?_getD, List.getElem?_eq_getElem h3]
    rfl
  have e2 : E[k] = lC E k := by
    unfold lC
    rw [List.getD_eq_getElem?_getD, List.getElem?_eq_getElem h4]
    rfl
  rw [e1, e2]
  have p1 : (lC C k).1 = (lC E k).1 := by
    rw [← h.2.2 k h3, ← g.2.2 k h4]
    exact (h1 k h3).1
  have t1 := stC_succ h3
  have t2 := stC_succ h4
  have u1 := es k (by omega)
  have u2 := es (k + 1) (by omega)
  have p2 : (lC C k).2 = (lC E k).2 := getD_ext (by omega) (fun i hi => by
    rw [← flt_at h3 hi, ← flt_at h4 (by omega), efl, u1])
  exact Prod.ext p1 p2
theorem m124 (d : Nat) (hN : 53 ≤ N) (h : RO w m x) (hW : RW C (x 38) (x 39) (x 41)) (hV : RW E (x 42) (x 43) (x 44)) (g : gC C) (gE : gC E) (e8 : m 8 = C.length) (e7 : m 7 = (flt C).length) (e11 : m 11 = E.length) (rM : ∀ k, -2147483648 ≤ gZ (x 41) k ∧ gZ (x 41) k < 2147483648):
    Xc (d + 1) 124 [.ref 30] (hp w N) (some (.int (iZ (bZ (decide (C = E))))), hp w N) := by
  have g1 := g.1
  have g2 := g.2.1
  have g3 := gE.1
  have g4 := gE.2.1
  have r_ : ∀ j, 28 ≤ j → j ≤ 51 → w j = cI (kdR j) (x j) ∧ (x j).length = lnR j := h.2
  have hm := h.1
  have h43 : w 43 = cI 0 (x 43) := (r_ 43 (by decide) (by decide)).1
  have n43 : (x 43).length = 8 := (r_ 43 (by decide) (by decide)).2
  have es : gZ (x 43) E.length = (flt E).length := by
    rw [hV.2.1 _ (Nat.le_refl _), stC_all]
  refine Xc.of rfl (by simp [lg_sl, Value.category]) ?_ x_le.rf
  have hc : c1 (lv_args 0 [.ref 30]) := by simp [c1, lv_args, Value.category]
  have l0 : x_lk (lv_args 0 [.ref 30]) 0 = some (.ref 30) := rfl
  generalize lv_args 0 [.ref 30] = lv at hc l0
  obtain ⟨s, hs⟩ : ∃ s : Bool, s = (decide (C.length = E.length) && decide ((flt C).length = (flt E).length)) := ⟨_, rfl⟩
  have C1 := c1_st (i := 1) (v := .int (iZ (bZ s))) rfl hc
  have C2 := c1_st (i := 2) (v := .int (iZ 0)) rfl C1
  have stb : ∀ k : Nat, k ≤ C.length → stC C k ≤ 40 := fun k hk => by
    have := stC_mono (C := C) hk
    rw [stC_all] at this
    omega
  have hrow : ∀ k : Int, 0 ≤ k → k < m 7 → -2147483648 ≤ gZ (x 38) k ∧ gZ (x 38) k < 2147483648 := fun k k0 k1 => by
    have := hW.1 k.toNat (by omega)
    rw [show ((k.toNat : Nat) : Int) = k by omega] at this
    rw [this]
    obtain ⟨y, hy, hz⟩ := flt_of (getD_mem (l := flt C) (i := k.toNat) (by omega))
    have := (g.2.2 y hy).2.2 _ hz
    omega
  by_cases hse : s = true
  · have hs2 := hse
    rw [hs, Bool.and_eq_true, decide_eq_true_iff, decide_eq_true_iff] at hs2
    obtain ⟨lv1, a1, a2, a3, a4⟩ := l124_35 (Mi := x 41) (U := x 44) (Sa := x 39) (T := x 43) d hN hm (r_ 41 (by decide) (by decide)).1 (r_ 41 (by decide) (by decide)).2 (r_ 44 (by decide) (by decide)).1 (r_ 44 (by decide) (by decide)).2 (r_ 39 (by decide) (by decide)).1 (r_ 39 (by decide) (by decide)).2 h43 n43 (by omega) (fun k k0 k1 => by
      have := hV.2.2 k.toNat (by omega)
      rw [show ((k.toNat : Nat) : Int) = k by omega] at this
      have h9 := (gE.2.2 _ (lC_mem (show k.toNat < E.length by omega))).1
      omega) rM (fun k k0 k1 => by
      have := hW.2.1 k.toNat (by omega)
      rw [show ((k.toNat : Nat) : Int) = k by omega] at this
      have := stb k.toNat (by omega)
      omega) (fun k k0 k1 => by
      have := hV.2.1 k.toNat (by omega)
      rw [show ((k.toNat : Nat) : Int) = k by omega] at this
      have h9 := stC_mono (C := E) (show k.toNat ≤ E.length by omega)
      rw [stC_all] at h9
      omega) C.length 0 s _ (by omega) (by omega) C2 (by rw [lk_s C1, lk_s hc]; exact l0) (by rw [lk_s C1, lk_s hc]; rfl) (by rw [lk_s C1]; rfl)
    have A2 := c1_st (i := 2) (v := .int (iZ 0)) rfl a1
    obtain ⟨lv2, b1, b2, b3, b4⟩ := l124_91 (R := x 38) (S := x 42) d hN hm (r_ 38 (by decide) (by decide)).1 (r_ 38 (by decide) (by decide)).2 (r_ 42 (by decide) (by decide)).1 (r_ 42 (by decide) (by decide)).2 (by omega) hrow (fun k k0 k1 => by
      have := hV.1 k.toNat (by omega)
      rw [show ((k.toNat : Nat) : Int) = k by omega] at this
      rw [this]
      obtain ⟨y, hy, hz⟩ := flt_of (getD_mem (l := flt E) (i := k.toNat) (by omega))
      have := (gE.2.2 y hy).2.2 _ hz
      omega) (flt C).length 0 _ _ (by omega) (by omega) A2 (by rw [lk_s a1]; exact a2) (by rw [lk_s a1]; exact a3) (by rw [lk_s a1]; rfl)
    have ev : decide (C = E) = (s && alF (fun k => decide (gZ (x 41) k = gZ (x 44) k) && decide (gZ (x 39) k = gZ (x 43) k)) C.length 0 && alF (fun k => decide (gZ (x 38) k = gZ (x 42) k)) (flt C).length 0) := by
      rw [Bool.eq_iff_iff, decide_eq_true_iff, Bool.and_eq_true, Bool.and_eq_true, alF_iff, alF_iff]
      constructor
      · intro e
        refine ⟨⟨hse, fun i hi => ?_⟩, fun i hi => ?_⟩
        · rw [Int.zero_add, Bool.and_eq_true, decide_eq_true_iff, decide_eq_true_iff, hW.2.2 i hi, hV.2.2 i (by omega), hW.2.1 i (by omega), hV.2.1 i (by omega), e]
          exact ⟨rfl, rfl⟩
        · rw [Int.zero_add, decide_eq_true_iff, hW.1 i hi, hV.1 i (by omega), e]
      · intro z
        refine RW_eq hW hV hs2.1 hs2.2 (fun k hk => ?_) (fun j hj => ?_)
        · have := z.1.2 k hk
          rw [Int.zero_add, Bool.and_eq_true, decide_eq_true_iff, decide_eq_true_iff] at this
          exact this
        · have := z.2 j hj
          rw [Int.zero_add, decide_eq_true_iff] at this
          exact this
    rw [ev]
    have y1 := eq_true (show (C.length : Int) = (E.length : Int) by omega)
    have y2 := eq_true (show ((flt C).length : Int) = ((flt E).length : Int) by omega)
    refine Gx.run 40 Cs.tt (fun C _ => ?_) (a4 _ (Gx.run 20 Cs.tt (fun C _ => ?_) (b4 _ (Gx.fin 20 Cs.tt (fun C _ => ?_)))))
    · rw [hse]
      simp (disch := first | (refine c1_id ?_; assumption) | (refine c1_st rfl ?_; repeat (first | assumption | refine c1_st rfl ?_)) | omega) [nx_l, nx_r, nx_n, x_st, x_push, x_bin, x_div, x_un, x_dup, x_pop, x_dup2, x_goto, x_ifeq, x_ifne, x_iflt, x_ifge, x_ifgt, x_ifle, x_iceq, x_icne, x_iclt, x_icge, x_icgt, x_icle, x_ifnull, x_ifnonnull, x_ldi, x_lda, x_sti, x_sta, x_iinc, x_gf, x_pf, x_ald, x_ast, x_aln, x_len, x_cl_, x_cv, x_cs, x_rc, x_r0, x_isT, x_oi, x_rv, x_ri, x_ra, Value.category, t124_0, t124_1, t124_4, t124_5, t124_8, t124_11, t124_12, t124_15, t124_16, t124_19, t124_20, t124_23, t124_24, t124_27, t124_28, t124_31, t124_32, t124_33, t124_34, t124_35, t124_36, t124_37, t124_40, t124_43, t124_44, t124_47, t124_48, t124_51, t124_52, t124_53, t124_54, t124_57, t124_58, t124_59, t124_62, t124_63, t124_66, t124_67, t124_68, t124_69, t124_72, t124_73, t124_74, t124_77, t124_78, t124_81, t124_82, t124_83, t124_86, t124_89, t124_90, t124_91, t124_92, t124_93, t124_96, t124_99, t124_100, t124_103, t124_104, t124_107, t124_108, t124_109, t124_110, t124_113, t124_114, t124_115, t124_118, t124_119, t124_122, t124_123, t124_124, t124_127, t124_130, t124_131, lk_s, hp_get, hp_set, uH_at, uH_ne, uH_upd, uH_swap, iZ_add, iZ_sub, iZ_mul, iZ_neg, iZ_lt, iZ_le, iZ_eq, iZ_div, iZ_of, ix_Z, gZ_map, gZ_mapI, gZ_map', le_0, le_s, sZ_map, sZ_len, bZ_0, bZ_inj, bZ_t, bZ_f, nr_i, nr_0, nr_1, nr_b, ft_i, ft_b, ft_0, ft_1, zl_0, zl_1, mF_len, mg_0, mg_1, mg_2, mg_3, mg_4, mg_5, mg_6, mg_7, mg_8, mg_9, mg_10, mg_11, mg_12, mg_13, mg_14, mg_15, mg_16, mg_17, mg_18, mg_19, mg_20, mg_21, mg_22, mg_23, mg_24, mg_25, mg_26, mg_27, mg_28, mg_29, mg_30, mg_31, mg_32, mg_33, mg_34, mg_35, mg_36, mg_37, mg_38, ms_0, ms_1, ms_2, ms_13, ms_14, ms_15, ms_16, ms_21, ms_22, ms_23, ms_24, ms_28, ms_36, ms_37, ms_38, st_at, st_ne, st_st, st_swap, l0, hm, e8, e7, e11, h43, es, y1, y2, -List.filter_filter, -List.getElem?_map, -List.getD_eq_getElem?_getD]
    · simp (disch := first | (refine c1_id ?_; assumption) | (refine c1_st rfl ?_; repeat (first | assumption | refine c1_st rfl ?_)) | omega) [nx_l, nx_r, nx_n, x_st, x_push, x_bin, x_div, x_un, x_dup, x_pop, x_dup2, x_goto, x_ifeq, x_ifne, x_iflt, x_ifge, x_ifgt, x_ifle, x_iceq, x_icne, x_iclt, x_icge, x_icgt, x_icle, x_ifnull, x_ifnonnull, x_ldi, x_lda, x_sti, x_sta, x_iinc, x_gf, x_pf, x_ald, x_ast, x_aln, x_len, x_cl_, x_cv, x_cs, x_rc, x_r0, x_isT, x_oi, x_rv, x_ri, x_ra, Value.category, t124_0, t124_1, t124_4, t124_5, t124_8, t124_11, t124_12, t124_15, t124_16, t124_19, t124_20, t124_23, t124_24, t124_27, t124_28, t124_31, t124_32, t124_33, t124_34, t124_35, t124_36, t124_37, t124_40, t124_43, t124_44, t124_47, t124_48, t124_51, t124_52, t124_53, t124_54, t124_57, t124_58, t124_59, t124_62, t124_63, t124_66, t124_67, t124_68, t124_69, t124_72, t124_73, t124_74, t124_77, t124_78, t124_81, t124_82, t124_83, t124_86, t124_89, t124_90, t124_91, t124_92, t124_93, t124_96, t124_99, t124_100, t124_103, t124_104, t124_107, t124_108, t124_109, t124_110, t124_113, t124_114, t124_115, t124_118, t124_119, t124_122, t124_123, t124_124, t124_127, t124_130, t124_131, lk_s, hp_get, hp_set, uH_at, uH_ne, uH_upd, uH_swap, iZ_add, iZ_sub, iZ_mul, iZ_neg, iZ_lt, iZ_le, iZ_eq, iZ_div, iZ_of, ix_Z, gZ_map, gZ_mapI, gZ_map', le_0, le_s, sZ_map, sZ_len, bZ_0, bZ_inj, bZ_t, bZ_f, nr_i, nr_0, nr_1, nr_b, ft_i, ft_b, ft_0, ft_1, zl_0, zl_1, mF_len, mg_0, mg_1, mg_2, mg_3, mg_4, mg_5, mg_6, mg_7, mg_8, mg_9, mg_10, mg_11, mg_12, mg_13, mg_14, mg_15, mg_16, mg_17, mg_18, mg_19, mg_20, mg_21, mg_22, mg_23, mg_24, mg_25, mg_26, mg_27, mg_28, mg_29, mg_30, mg_31, mg_32, mg_33, mg_34, mg_35, mg_36, mg_37, mg_38, ms_0, ms_1, ms_2, ms_13, ms_14, ms_15, ms_16, ms_21, ms_22, ms_23, ms_24, ms_28, ms_36, ms_37, ms_38, st_at, st_ne, st_st, st_swap, a2, -List.filter_filter, -List.getElem?_map, -List.getD_eq_getElem?_getD]
    · simp (disch := first | (refine c1_id ?_; assumption) | (refine c1_st rfl ?_; repeat (first | assumption | refine c1_st rfl ?_)) | omega) [nx_l, nx_r, nx_n, x_st, x_push, x_bin, x_div, x_un, x_dup, x_pop, x_dup2, x_goto, x_ifeq, x_ifne, x_iflt, x_ifge, x_ifgt, x_ifle, x_iceq, x_icne, x_iclt, x_icge, x_icgt, x_icle, x_ifnull, x_ifnonnull, x_ldi, x_lda, x_sti, x_sta, x_iinc, x_gf, x_pf, x_ald, x_ast, x_aln, x_len, x_cl_, x_cv, x_cs, x_rc, x_r0, x_isT, x_oi, x_rv, x_ri, x_ra, Value.category, t124_0, t124_1, t124_4, t124_5, t124_8, t124_11, t124_12, t124_15, t124_16, t124_19, t124_20, t124_23, t124_24, t124_27, t124_28, t124_31, t124_32, t124_33, t124_34, t124_35, t124_36, t124_37, t124_40, t124_43, t124_44, t124_47, t124_48, t124_51, t124_52, t124_53, t124_54, t124_57, t124_58, t124_59, t124_62, t124_63, t124_66, t124_67, t124_68, t124_69, t124_72, t124_73, t124_74, t124_77, t124_78, t124_81, t124_82, t124_83, t124_86, t124_89, t124_90, t124_91, t124_92, t124_93, t124_96, t124_99, t124_100, t124_103, t124_104, t124_107, t124_108, t124_109, t124_110, t124_113, t124_114, t124_115, t124_118, t124_119, t124_122, t124_123, t124_124, t124_127, t124_130, t124_131, lk_s, hp_get, hp_set, uH_at, uH_ne, uH_upd, uH_swap, iZ_add, iZ_sub, iZ_mul, iZ_neg, iZ_lt, iZ_le, iZ_eq, iZ_div, iZ_of, ix_Z, gZ_map, gZ_mapI, gZ_map', le_0, le_s, sZ_map, sZ_len, bZ_0, bZ_inj, bZ_t, bZ_f, nr_i, nr_0, nr_1, nr_b, ft_i, ft_b, ft_0, ft_1, zl_0, zl_1, mF_len, mg_0, mg_1, mg_2, mg_3, mg_4, mg_5, mg_6, mg_7, mg_8, mg_9, mg_10, mg_11, mg_12, mg_13, mg_14, mg_15, mg_16, mg_17, mg_18, mg_19, mg_20, mg_21, mg_22, mg_23, mg_24, mg_25, mg_26, mg_27, mg_28, mg_29, mg_30, mg_31, mg_32, mg_33, mg_34, mg_35, mg_36, mg_37, mg_38, ms_0, ms_1, ms_2, ms_13, ms_14, ms_15, ms_16, ms_21, ms_22, ms_23, ms_24, ms_28, ms_36, ms_37, ms_38, st_at, st_ne, st_st, st_swap, b3, -List.filter_filter, -List.getElem?_map, -List.getD_eq_getElem?_getD]
  · have hs3 : s = false := by simpa using hse
    have hne : decide (C = E) = false := by
      rw [decide_eq_false_iff_not]
      intro e
      apply hse
      rw [hs, e]
      simp
    rw [hne]
    obtain ⟨a, ha⟩ : ∃ a : Int, a = (C.length : Int) := ⟨_, rfl⟩
    obtain ⟨b, hb⟩ : ∃ b : Int, b = ((flt C).length : Int) := ⟨_, rfl⟩
    obtain ⟨c, hce⟩ : ∃ c : Int, c = (E.length : Int) := ⟨_, rfl⟩
    obtain ⟨f, hf⟩ : ∃ f : Int, f = ((flt E).length : Int) := ⟨_, rfl⟩
    have d8 : m 8 = a := by omega
    have d7 : m 7 = b := by omega
    have d11 : m 11 = c := by omega
    have ds : gZ (x 43) c = f := by rw [hce, hf]; exact es
    have a0 : 0 ≤ a := by omega
    have a6 : a ≤ 6 := by omega
    have b0 : 0 ≤ b := by omega
    have b6 : b ≤ 40 := by omega
    have c0 : 0 ≤ c := by omega
    have c6 : c ≤ 6 := by omega
    have f0 : 0 ≤ f := by omega
    have f6 : f ≤ 40 := by omega
    have y0 : ¬ (a = c ∧ b = f) := fun z => hse (by
      rw [hs, Bool.and_eq_true, decide_eq_true_iff, decide_eq_true_iff]
      omega)
    clear es e8 e7 e11 ha hb hce hf hs hse hrow stb
    refine Gx.fin 80 Cs.tt (fun K _ => ?_)
    by_cases y1 : a = c
    · have y2 : ¬ b = f := fun z => y0 ⟨y1, z⟩
      subst y1
      by_cases y3 : a ≤ 0
      · by_cases y4 : b ≤ 0
        · simp (disch := first | (refine c1_id ?_; assumption) | (refine c1_st rfl ?_; repeat (first | assumption | refine c1_st rfl ?_)) | omega) [nx_l, nx_r, nx_n, x_st, x_push, x_bin, x_div, x_un, x_dup, x_pop, x_dup2, x_goto, x_ifeq, x_ifne, x_iflt, x_ifge, x_ifgt, x_ifle, x_iceq, x_icne, x_iclt, x_icge, x_icgt, x_icle, x_ifnull, x_ifnonnull, x_ldi, x_lda, x_sti, x_sta, x_iinc, x_gf, x_pf, x_ald, x_ast, x_aln, x_len, x_cl_, x_cv, x_cs, x_rc, x_r0, x_isT, x_oi, x_rv, x_ri, x_ra, Value.category, t124_0, t124_1, t124_4, t124_5, t124_8, t124_11, t124_12, t124_15, t124_16, t124_19, t124_20, t124_23, t124_24, t124_27, t124_28, t124_31, t124_32, t124_33, t124_34, t124_35, t124_36, t124_37, t124_40, t124_43, t124_44, t124_47, t124_48, t124_51, t124_52, t124_53, t124_54, t124_57, t124_58, t124_59, t124_62, t124_63, t124_66, t124_67, t124_68, t124_69, t124_72, t124_73, t124_74, t124_77, t124_78, t124_81, t124_82, t124_83, t124_86, t124_89, t124_90, t124_91, t124_92, t124_93, t124_96, t124_99, t124_100, t124_103, t124_104, t124_107, t124_108, t124_109, t124_110, t124_113, t124_114, t124_115, t124_118, t124_119, t124_122, t124_123, t124_124, t124_127, t124_130, t124_131, lk_s, hp_get, hp_set, uH_at, uH_ne, uH_upd, uH_swap, iZ_add, iZ_sub, iZ_mul, iZ_neg, iZ_lt, iZ_le, iZ_eq, iZ_div, iZ_of, ix_Z, gZ_map, gZ_mapI, gZ_map', le_0, le_s, sZ_map, sZ_len, bZ_0, bZ_inj, bZ_t, bZ_f, nr_i, nr_0, nr_1, nr_b, ft_i, ft_b, ft_0, ft_1, zl_0, zl_1, mF_len, mg_0, mg_1, mg_2, mg_3, mg_4, mg_5, mg_6, mg_7, mg_8, mg_9, mg_10, mg_11, mg_12, mg_13, mg_14, mg_15, mg_16, mg_17, mg_18, mg_19, mg_20, mg_21, mg_22, mg_23, mg_24, mg_25, mg_26, mg_27, mg_28, mg_29, mg_30, mg_31, mg_32, mg_33, mg_34, mg_35, mg_36, mg_37, mg_38, ms_0, ms_1, ms_2, ms_13, ms_14, ms_15, ms_16, ms_21, ms_22, ms_23, ms_24, ms_28, ms_36, ms_37, ms_38, st_at, st_ne, st_st, st_swap, l0, hm, d8, d7, d11, h43, ds, y2, y3, y4, -List.filter_filter, -List.getElem?_map, -List.getD_eq_getElem?_getD]
        · simp (disch := first | (refine c1_id ?_; assumption) | (refine c1_st rfl ?_; repeat (first | assumption | refine c1_st rfl ?_)) | omega) [nx_l, nx_r, nx_n, x_st, x_push, x_bin, x_div, x_un, x_dup, x_pop, x_dup2, x_goto, x_ifeq, x_ifne, x_iflt, x_ifge, x_ifgt, x_ifle, x_iceq, x_icne, x_iclt, x_icge, x_icgt, x_icle, x_ifnull, x_ifnonnull, x_ldi, x_lda, x_sti, x_sta, x_iinc, x_gf, x_pf, x_ald, x_ast, x_aln, x_len, x_cl_, x_cv, x_cs, x_rc, x_r0, x_isT, x_oi, x_rv, x_ri, x_ra, Value.category, t124_0, t124_1, t124_4, t124_5, t124_8, t124_11, t124_12, t124_15, t124_16, t124_19, t124_20, t124_23, t124_24, t124_27, t124_28, t124_31, t124_32, t124_33, t124_34, t124_35, t124_36, t124_37, t124_40, t124_43, t124_44, t124_47, t124_48, t124_51, t124_52, t124_53, t124_54, t124_57, t124_58, t124_59, t124_62, t124_63, t124_66, t124_67, t124_68, t124_69, t124_72, t124_73, t124_74, t124_77, t124_78, t124_81, t124_82, t124_83, t124_86, t124_89, t124_90, t124_91, t124_92, t124_93, t124_96, t124_99, t124_100, t124_103, t124_104, t124_107, t124_108, t124_109, t124_110, t124_113, t124_114, t124_115, t124_118, t124_119, t124_122, t124_123, t124_124, t124_127, t124_130, t124_131, lk_s, hp_get, hp_set, uH_at, uH_ne, uH_upd, uH_swap, iZ_add, iZ_sub, iZ_mul, iZ_neg, iZ_lt, iZ_le, iZ_eq, iZ_div, iZ_of, ix_Z, gZ_map, gZ_mapI, gZ_map', le_0, le_s, sZ_map, sZ_len, bZ_0, bZ_inj, bZ_t, bZ_f, nr_i, nr_0, nr_1, nr_b, ft_i, ft_b, ft_0, ft_1, zl_0, zl_1, mF_len, mg_0, mg_1, mg_2, mg_3, mg_4, mg_5, mg_6, mg_7, mg_8, mg_9, mg_10, mg_11, mg_12, mg_13, mg_14, mg_15, mg_16, mg_17, mg_18, mg_19, mg_20, mg_21, mg_22, mg_23, mg_24, mg_25, mg_26, mg_27, mg_28, mg_29, mg_30, mg_31, mg_32, mg_33, mg_34, mg_35, mg_36, mg_37, mg_38, ms_0, ms_1, ms_2, ms_13, ms_14, ms_15, ms_16, ms_21, ms_22, ms_23, ms_24, ms_28, ms_36, ms_37, ms_38, st_at, st_ne, st_st, st_swap, l0, hm, d8, d7, d11, h43, ds, y2, y3, y4, -List.filter_filter, -List.getElem?_map, -List.getD_eq_getElem?_getD]
      · by_cases y4 : b ≤ 0
        · simp (disch := first | (refine c1_id ?_; assumption) | (refine c1_st rfl ?_; repeat (first | assumption | refine c1_st rfl ?_)) | omega) [nx_l, nx_r, nx_n, x_st, x_push, x_bin, x_div, x_un, x_dup, x_pop, x_dup2, x_goto, x_ifeq, x_ifne, x_iflt, x_ifge, x_ifgt, x_ifle, x_iceq, x_icne, x_iclt, x_icge, x_icgt, x_icle, x_ifnull, x_ifnonnull, x_ldi, x_lda, x_sti, x_sta, x_iinc, x_gf, x_pf, x_ald, x_ast, x_aln, x_len, x_cl_, x_cv, x_cs, x_rc, x_r0, x_isT, x_oi, x_rv, x_ri, x_ra, Value.category, t124_0, t124_1, t124_4, t124_5, t124_8, t124_11, t124_12, t124_15, t124_16, t124_19, t124_20, t124_23, t124_24, t124_27, t124_28, t124_31, t124_32, t124_33, t124_34, t124_35, t124_36, t124_37, t124_40, t124_43, t124_44, t124_47, t124_48, t124_51, t124_52, t124_53, t124_54, t124_57, t124_58, t124_59, t124_62, t124_63, t124_66, t124_67, t124_68, t124_69, t124_72, t124_73, t124_74, t124_77, t124_78, t124_81, t124_82, t124_83, t124_86, t124_89, t124_90, t124_91, t124_92, t124_93, t124_96, t124_99, t124_100, t124_103, t124_104, t124_107, t124_108, t124_109, t124_110, t124_113, t124_114, t124_115, t124_118, t124_119, t124_122, t124_123, t124_124, t124_127, t124_130, t124_131, lk_s, hp_get, hp_set, uH_at, uH_ne, uH_upd, uH_swap, iZ_add, iZ_sub, iZ_mul, iZ_neg, iZ_lt, iZ_le, iZ_eq, iZ_div, iZ_of, ix_Z, gZ_map, gZ_mapI, gZ_map', le_0, le_s, sZ_map, sZ_len, bZ_0, bZ_inj, bZ_t, bZ_f, nr_i, nr_0, nr_1, nr_b, ft_i, ft_b, ft_0, ft_1, zl_0, zl_1, mF_len, mg_0, mg_1, mg_2, mg_3, mg_4, mg_5, mg_6, mg_7, mg_8, mg_9, mg_10, mg_11, mg_12, mg_13, mg_14, mg_15, mg_16, mg_17, mg_18, mg_19, mg_20, mg_21, mg_22, mg_23, mg_24, mg_25, mg_26, mg_27, mg_28, mg_29, mg_30, mg_31, mg_32, mg_33, mg_34, mg_35, mg_36, mg_37, mg_38, ms_0, ms_1, ms_2, ms_13, ms_14, ms_15, ms_16, ms_21, ms_22, ms_23, ms_24, ms_28, ms_36, ms_37, ms_38, st_at, st_ne, st_st, st_swap, l0, hm, d8, d7, d11, h43, ds, y2, y3, y4, -List.filter_filter, -List.getElem?_map, -List.getD_eq_getElem?_getD]
        · simp (disch := first | (refine c1_id ?_; assumption) | (refine c1_st rfl ?_; repeat (first | assumption | refine c1_st rfl ?_)) | omega) [nx_l, nx_r, nx_n, x_st, x_push, x_bin, x_div, x_un, x_dup, x_pop, x_dup2, x_goto, x_ifeq, x_ifne, x_iflt, x_ifge, x_ifgt, x_ifle, x_iceq, x_icne, x_iclt, x_icge, x_icgt, x_icle, x_ifnull, x_ifnonnull, x_ldi, x_lda, x_sti, x_sta, x_iinc, x_gf, x_pf, x_ald, x_ast, x_aln, x_len, x_cl_, x_cv, x_cs, x_rc, x_r0, x_isT, x_oi, x_rv, x_ri, x_ra, Value.category, t124_0, t124_1, t124_4, t124_5, t124_8, t124_11, t124_12, t124_15, t124_16, t124_19, t124_20, t124_23, t124_24, t124_27, t124_28, t124_31, t124_32, t124_33, t124_34, t124_35, t124_36, t124_37, t124_40, t124_43, t124_44, t124_47, t124_48, t124_51, t124_52, t124_53, t124_54, t124_57, t124_58, t124_59, t124_62, t124_63, t124_66, t124_67, t124_68, t124_69, t124_72, t124_73, t124_74, t124_77, t124_78, t124_81, t124_82, t124_83, t124_86, t124_89, t124_90, t124_91, t124_92, t124_93, t124_96, t124_99, t124_100, t124_103, t124_104, t124_107, t124_108, t124_109, t124_110, t124_113, t124_114, t124_115, t124_118, t124_119, t124_122, t124_123, t124_124, t124_127, t124_130, t124_131, lk_s, hp_get, hp_set, uH_at, uH_ne, uH_upd, uH_swap, iZ_add, iZ_sub, iZ_mul, iZ_neg, iZ_lt, iZ_le, iZ_eq, iZ_div, iZ_of, ix_Z, gZ_map, gZ_mapI, gZ_map', le_0, le_s, sZ_map, sZ_len, bZ_0, bZ_inj, bZ_t, bZ_f, nr_i, nr_0, nr_1, nr_b, ft_i, ft_b, ft_0, ft_1, zl_0, zl_1, mF_len, mg_0, mg_1, mg_2, mg_3, mg_4, mg_5, mg_6, mg_7, mg_8, mg_9, mg_10, mg_11, mg_12, mg_13, mg_14, mg_15, mg_16, mg_17, mg_18, mg_19, mg_20, mg_21, mg_22, mg_23, mg_24, mg_25, mg_26, mg_27, mg_28, mg_29, mg_30, mg_31, mg_32, mg_33, mg_34, mg_35, mg_36, mg_37, mg_38, ms_0, ms_1, ms_2, ms_13, ms_14, ms_15, ms_16, ms_21, ms_22, ms_23, ms_24, ms_28, ms_36, ms_37, ms_38, st_at, st_ne, st_st, st_swap, l0, hm, d8, d7, d11, h43, ds, y2, y3, y4, -List.filter_filter, -List.getElem?_map, -List.getD_eq_getElem?_getD]
    · by_cases y3 : a ≤ 0
      · by_cases y4 : b ≤ 0
        · simp (disch := first | (refine c1_id ?_; assumption) | (refine c1_st rfl ?_; repeat (first | assumption | refine c1_st rfl ?_)) | omega) [nx_l, nx_r, nx_n, x_st, x_push, x_bin, x_div, x_un, x_dup, x_pop, x_dup2, x_goto, x_ifeq, x_ifne, x_iflt, x_ifge, x_ifgt, x_ifle, x_iceq, x_icne, x_iclt, x_icge, x_icgt, x_icle, x_ifnull, x_ifnonnull, x_ldi, x_lda, x_sti, x_sta, x_iinc, x_gf, x_pf, x_ald, x_ast, x_aln, x_len, x_cl_, x_cv, x_cs, x_rc, x_r0, x_isT, x_oi, x_rv, x_ri, x_ra, Value.category, t124_0, t124_1, t124_4, t124_5, t124_8, t124_11, t124_12, t124_15, t124_16, t124_19, t124_20, t124_23, t124_24, t124_27, t124_28, t124_31, t124_32, t124_33, t124_34, t124_35, t124_36, t124_37, t124_40, t124_43, t124_44, t124_47, t124_48, t124_51, t124_52, t124_53, t124_54, t124_57, t124_58, t124_59, t124_62, t124_63, t124_66, t124_67, t124_68, t124_69, t124_72, t124_73, t124_74, t124_77, t124_78, t124_81, t124_82, t124_83, t124_86, t124_89, t124_90, t124_91, t124_92, t124_93, t124_96, t124_99, t124_100, t124_103, t124_104, t124_107, t124_108, t124_109, t124_110, t124_113, t124_114, t124_115, t124_118, t124_119, t124_122, t124_123, t124_124, t124_127, t124_130, t124_131, lk_s, hp_get, hp_set, uH_at, uH_ne, uH_upd, uH_swap, iZ_add, iZ_sub, iZ_mul, iZ_neg, iZ_lt, iZ_le, iZ_eq, iZ_div, iZ_of, ix_Z, gZ_map, gZ_mapI, gZ_map', le_0, le_s, sZ_map, sZ_len, bZ_0, bZ_inj, bZ_t, bZ_f, nr_i, nr_0, nr_1, nr_b, ft_i, ft_b, ft_0, ft_1, zl_0, zl_1, mF_len, mg_0, mg_1, mg_2, mg_3, mg_4, mg_5, mg_6, mg_7, mg_8, mg_9, mg_10, mg_11, mg_12, mg_13, mg_14, mg_15, mg_16, mg_17, mg_18, mg_19, mg_20, mg_21, mg_22, mg_23, mg_24, mg_25, mg_26, mg_27, mg_28, mg_29, mg_30, mg_31, mg_32, mg_33, mg_34, mg_35, mg_36, mg_37, mg_38, ms_0, ms_1, ms_2, ms_13, ms_14, ms_15, ms_16, ms_21, ms_22, ms_23, ms_24, ms_28, ms_36, ms_37, ms_38, st_at, st_ne, st_st, st_swap, l0, hm, d8, d7, d11, h43, ds, y1, y3, y4, -List.filter_filter, -List.getElem?_map, -List.getD_eq_getElem?_getD]
        · simp (disch := first | (refine c1_id ?_; assumption) | (refine c1_st rfl ?_; repeat (first | assumption | refine c1_st rfl ?_)) | omega) [nx_l, nx_r, nx_n, x_st, x_push, x_bin, x_div, x_un, x_dup, x_pop, x_dup2, x_goto, x_ifeq, x_ifne, x_iflt, x_ifge, x_ifgt, x_ifle, x_iceq, x_icne, x_iclt, x_icge, x_icgt, x_icle, x_ifnull, x_ifnonnull, x_ldi, x_lda, x_sti, x_sta, x_iinc, x_gf, x_pf, x_ald, x_ast, x_aln, x_len, x_cl_, x_cv, x_cs, x_rc, x_r0, x_isT, x_oi, x_rv, x_ri, x_ra, Value.category, t124_0, t124_1, t124_4, t124_5, t124_8, t124_11, t124_12, t124_15, t124_16, t124_19, t124_20, t124_23, t124_24, t124_27, t124_28, t124_31, t124_32, t124_33, t124_34, t124_35, t124_36, t124_37, t124_40, t124_43, t124_44, t124_47, t124_48, t124_51, t124_52, t124_53, t124_54, t124_57, t124_58, t124_59, t124_62, t124_63, t124_66, t124_67, t124_68, t124_69, t124_72, t124_73, t124_74, t124_77, t124_78, t124_81, t124_82, t124_83, t124_86, t124_89, t124_90, t124_91, t124_92, t124_93, t124_96, t124_99, t124_100, t124_103, t124_104, t124_107, t124_108, t124_109, t124_110, t124_113, t124_114, t124_115, t124_118, t124_119, t124_122, t124_123, t124_124, t124_127, t124_130, t124_131, lk_s, hp_get, hp_set, uH_at, uH_ne, uH_upd, uH_swap, iZ_add, iZ_sub, iZ_mul, iZ_neg, iZ_lt, iZ_le, iZ_eq, iZ_div, iZ_of, ix_Z, gZ_map, gZ_mapI, gZ_map', le_0, le_s, sZ_map, sZ_len, bZ_0, bZ_inj, bZ_t, bZ_f, nr_i, nr_0, nr_1, nr_b, ft_i, ft_b, ft_0, ft_1, zl_0, zl_1, mF_len, mg_0, mg_1, mg_2, mg_3, mg_4, mg_5, mg_6, mg_7, mg_8, mg_9, mg_10, mg_11, mg_12, mg_13, mg_14, mg_15, mg_16, mg_17, mg_18, mg_19, mg_20, mg_21, mg_22, mg_23, mg_24, mg_25, mg_26, mg_27, mg_28, mg_29, mg_30, mg_31, mg_32, mg_33, mg_34, mg_35, mg_36, mg_37, mg_38, ms_0, ms_1, ms_2, ms_13, ms_14, ms_15, ms_16, ms_21, ms_22, ms_23, ms_24, ms_28, ms_36, ms_37, ms_38, st_at, st_ne, st_st, st_swap, l0, hm, d8, d7, d11, h43, ds, y1, y3, y4, -List.filter_filter, -List.getElem?_map, -List.getD_eq_getElem?_getD]
      · by_cases y4 : b ≤ 0
        · simp (disch := first | (refine c1_id ?_; assumption) | (refine c1_st rfl ?_; repeat (first | assumption | refine c1_st rfl ?_)) | omega) [nx_l, nx_r, nx_n, x_st, x_push, x_bin, x_div, x_un, x_dup, x_pop, x_dup2, x_goto, x_ifeq, x_ifne, x_iflt, x_ifge, x_ifgt, x_ifle, x_iceq, x_icne, x_iclt, x_icge, x_icgt, x_icle, x_ifnull, x_ifnonnull, x_ldi, x_lda, x_sti, x_sta, x_iinc, x_gf, x_pf, x_ald, x_ast, x_aln, x_len, x_cl_, x_cv, x_cs, x_rc, x_r0, x_isT, x_oi, x_rv, x_ri, x_ra, Value.category, t124_0, t124_1, t124_4, t124_5, t124_8, t124_11, t124_12, t124_15, t124_16, t124_19, t124_20, t124_23, t124_24, t124_27, t124_28, t124_31, t124_32, t124_33, t124_34, t124_35, t124_36, t124_37, t124_40, t124_43, t124_44, t124_47, t124_48, t124_51, t124_52, t124_53, t124_54, t124_57, t124_58, t124_59, t124_62, t124_63, t124_66, t124_67, t124_68, t124_69, t124_72, t124_73, t124_74, t124_77, t124_78, t124_81, t124_82, t124_83, t124_86, t124_89, t124_90, t124_91, t124_92, t124_93, t124_96, t124_99, t124_100, t124_103, t124_104, t124_107, t124_108, t124_109, t124_110, t124_113, t124_114, t124_115, t124_118, t124_119, t124_122, t124_123, t124_124, t124_127, t124_130, t124_131, lk_s, hp_get, hp_set, uH_at, uH_ne, uH_upd, uH_swap, iZ_add, iZ_sub, iZ_mul, iZ_neg, iZ_lt, iZ_le, iZ_eq, iZ_div, iZ_of, ix_Z, gZ_map, gZ_mapI, gZ_map', le_0, le_s, sZ_map, sZ_len, bZ_0, bZ_inj, bZ_t, bZ_f, nr_i, nr_0, nr_1, nr_b, ft_i, ft_b, ft_0, ft_1, zl_0, zl_1, mF_len, mg_0, mg_1, mg_2, mg_3, mg_4, mg_5, mg_6, mg_7, mg_8, mg_9, mg_10, mg_11, mg_12, mg_13, mg_14, mg_15, mg_16, mg_17, mg_18, mg_19, mg_20, mg_21, mg_22, mg_23, mg_24, mg_25, mg_26, mg_27, mg_28, mg_29, mg_30, mg_31, mg_32, mg_33, mg_34, mg_35, mg_36, mg_37, mg_38, ms_0, ms_1, ms_2, ms_13, ms_14, ms_15, ms_16, ms_21, ms_22, ms_23, ms_24, ms_28, ms_36, ms_37, ms_38, st_at, st_ne, st_st, st_swap, l0, hm, d8, d7, d11, h43, ds, y1, y3, y4, -List.filter_filter, -List.getElem?_map, -List.getD_eq_getElem?_getD]
        · simp (disch := first | (refine c1_id ?_; assumption) | (refine c1_st rfl ?_; repeat (first | assumption | refine c1_st rfl ?_)) | omega) [nx_l, nx_r, nx_n, x_st, x_push, x_bin, x_div, x_un, x_dup, x_pop, x_dup2, x_goto, x_ifeq, x_ifne, x_iflt, x_ifge, x_ifgt, x_ifle, x_iceq, x_icne, x_iclt, x_icge, x_icgt, x_icle, x_ifnull, x_ifnonnull, x_ldi, x_lda, x_sti, x_sta, x_iinc, x_gf, x_pf, x_ald, x_ast, x_aln, x_len, x_cl_, x_cv, x_cs, x_rc, x_r0, x_isT, x_oi, x_rv, x_ri, x_ra, Value.category, t124_0, t124_1, t124_4, t124_5, t124_8, t124_11, t124_12, t124_15, t124_16, t124_19, t124_20, t124_23, t124_24, t124_27, t124_28, t124_31, t124_32, t124_33, t124_34, t124_35, t124_36, t124_37, t124_40, t124_43, t124_44, t124_47, t124_48, t124_51, t124_52, t124_53, t124_54, t124_57, t124_58, t124_59, t124_62, t124_63, t124_66, t124_67, t124_68, t124_69, t124_72, t124_73, t124_74, t124_77, t124_78, t124_81, t124_82, t124_83, t124_86, t124_89, t124_90, t124_91, t124_92, t124_93, t124_96, t124_99, t124_100, t124_103, t124_104, t124_107, t124_108, t124_109, t124_110, t124_113, t124_114, t124_115, t124_118, t124_119, t124_122, t124_123, t124_124, t124_127, t124_130, t124_131, lk_s, hp_get, hp_set, uH_at, uH_ne, uH_upd, uH_swap, iZ_add, iZ_sub, iZ_mul, iZ_neg, iZ_lt, iZ_le, iZ_eq, iZ_div, iZ_of, ix_Z, gZ_map, gZ_mapI, gZ_map', le_0, le_s, sZ_map, sZ_len, bZ_0, bZ_inj, bZ_t, bZ_f, nr_i, nr_0, nr_1, nr_b, ft_i, ft_b, ft_0, ft_1, zl_0, zl_1, mF_len, mg_0, mg_1, mg_2, mg_3, mg_4, mg_5, mg_6, mg_7, mg_8, mg_9, mg_10, mg_11, mg_12, mg_13, mg_14, mg_15, mg_16, mg_17, mg_18, mg_19, mg_20, mg_21, mg_22, mg_23, mg_24, mg_25, mg_26, mg_27, mg_28, mg_29, mg_30, mg_31, mg_32, mg_33, mg_34, mg_35, mg_36, mg_37, mg_38, ms_0, ms_1, ms_2, ms_13, ms_14, ms_15, ms_16, ms_21, ms_22, ms_23, ms_24, ms_28, ms_36, ms_37, ms_38, st_at, st_ne, st_st, st_swap, l0, hm, d8, d7, d11, h43, ds, y1, y3, y4, -List.filter_filter, -List.getElem?_map, -List.getD_eq_getElem?_getD]
end CL
