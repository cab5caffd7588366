/-! the reference: all its rows; a clause is laid; the end of making -/
theorem f125_0 : x_fetch q_k125 0 = x_st (x_push 1 (.int (0))) := rfl
theorem t125_0 (C : xF) (s n : Nat) (z : xS) : x_to q_k125 C s (n + 1) 0 z = x_nx q_k125 C s n ((x_st (x_push 1 (.int (0)))) C z) := x_to_at f125_0 C s n z
theorem f125_1 : x_fetch q_k125 1 = x_sti 3 7 := rfl
theorem t125_1 (C : xF) (s n : Nat) (z : xS) : x_to q_k125 C s (n + 1) 1 z = x_nx q_k125 C s n ((x_sti 3 7) C z) := x_to_at f125_1 C s n z
theorem f125_3 : x_fetch q_k125 3 = x_ldi 5 7 := rfl
theorem t125_3 (C : xF) (s n : Nat) (z : xS) : x_to q_k125 C s (n + 1) 3 z = x_nx q_k125 C s n ((x_ldi 5 7) C z) := x_to_at f125_3 C s n z
theorem f125_5 : x_fetch q_k125 5 = x_st (x_push 7 (.int (52))) := rfl
theorem t125_5 (C : xF) (s n : Nat) (z : xS) : x_to q_k125 C s (n + 1) 5 z = x_nx q_k125 C s n ((x_st (x_push 7 (.int (52)))) C z) := x_to_at f125_5 C s n z
theorem f125_7 : x_fetch q_k125 7 = x_st (x_icge 24 10) := rfl
theorem t125_7 (C : xF) (s n : Nat) (z : xS) : x_to q_k125 C s (n + 1) 7 z = x_nx q_k125 C s n ((x_st (x_icge 24 10)) C z) := x_to_at f125_7 C s n z
theorem f125_10 : x_fetch q_k125 10 = x_lda 11 0 := rfl
theorem t125_10 (C : xF) (s n : Nat) (z : xS) : x_to q_k125 C s (n + 1) 10 z = x_nx q_k125 C s n ((x_lda 11 0) C z) := x_to_at f125_10 C s n z
theorem f125_11 : x_fetch q_k125 11 = x_gf 14 8 30 := rfl
theorem t125_11 (C : xF) (s n : Nat) (z : xS) : x_to q_k125 C s (n + 1) 11 z = x_nx q_k125 C s n ((x_gf 14 8 30) C z) := x_to_at f125_11 C s n z
theorem f125_14 : x_fetch q_k125 14 = x_ldi 16 7 := rfl
theorem t125_14 (C : xF) (s n : Nat) (z : xS) : x_to q_k125 C s (n + 1) 14 z = x_nx q_k125 C s n ((x_ldi 16 7) C z) := x_to_at f125_14 C s n z
theorem f125_16 : x_fetch q_k125 16 = x_st (x_push 17 (.int (-1))) := rfl
theorem t125_16 (C : xF) (s n : Nat) (z : xS) : x_to q_k125 C s (n + 1) 16 z = x_nx q_k125 C s n ((x_st (x_push 17 (.int (-1)))) C z) := x_to_at f125_16 C s n z
theorem f125_17 : x_fetch q_k125 17 = x_ast 18 0 (fun x => x) := rfl
theorem t125_17 (C : xF) (s n : Nat) (z : xS) : x_to q_k125 C s (n + 1) 17 z = x_nx q_k125 C s n ((x_ast 18 0 (fun x => x)) C z) := x_to_at f125_17 C s n z
theorem f125_18 : x_fetch q_k125 18 = x_iinc 21 7 (1) := rfl
theorem t125_18 (C : xF) (s n : Nat) (z : xS) : x_to q_k125 C s (n + 1) 18 z = x_nx q_k125 C s n ((x_iinc 21 7 (1)) C z) := x_to_at f125_18 C s n z
theorem f125_21 : x_fetch q_k125 21 = x_st (x_goto 3) := rfl
theorem t125_21 (C : xF) (s n : Nat) (z : xS) : x_to q_k125 C s (n + 1) 21 z = x_nx q_k125 C s n ((x_st (x_goto 3)) C z) := x_to_at f125_21 C s n z
theorem f125_24 : x_fetch q_k125 24 = x_lda 25 0 := rfl
theorem t125_24 (C : xF) (s n : Nat) (z : xS) : x_to q_k125 C s (n + 1) 24 z = x_nx q_k125 C s n ((x_lda 25 0) C z) := x_to_at f125_24 C s n z
theorem f125_25 : x_fetch q_k125 25 = x_ldi 26 2 := rfl
theorem t125_25 (C : xF) (s n : Nat) (z : xS) : x_to q_k125 C s (n + 1) 25 z = x_nx q_k125 C s n ((x_ldi 26 2) C z) := x_to_at f125_25 C s n z
theorem f125_26 : x_fetch q_k125 26 = x_st (x_push 27 (.int (0))) := rfl
theorem t125_26 (C : xF) (s n : Nat) (z : xS) : x_to q_k125 C s (n + 1) 26 z = x_nx q_k125 C s n ((x_st (x_push 27 (.int (0)))) C z) := x_to_at f125_26 C s n z
theorem f125_27 : x_fetch q_k125 27 = x_st (x_push 28 (.int (0))) := rfl
theorem t125_27 (C : xF) (s n : Nat) (z : xS) : x_to q_k125 C s (n + 1) 27 z = x_nx q_k125 C s n ((x_st (x_push 28 (.int (0)))) C z) := x_to_at f125_27 C s n z
theorem f125_28 : x_fetch q_k125 28 = x_cv 31 110 4 8 := rfl
theorem t125_28 (C : xF) (s n : Nat) (z : xS) : x_to q_k125 C s (n + 1) 28 z = x_nx q_k125 C s n ((x_cv 31 110 4 8) C z) := x_to_at f125_28 C s n z
theorem f125_31 : x_fetch q_k125 31 = x_ldi 32 1 := rfl
theorem t125_31 (C : xF) (s n : Nat) (z : xS) : x_to q_k125 C s (n + 1) 31 z = x_nx q_k125 C s n ((x_ldi 32 1) C z) := x_to_at f125_31 C s n z
theorem f125_32 : x_fetch q_k125 32 = x_st (x_ifeq 40 35) := rfl
theorem t125_32 (C : xF) (s n : Nat) (z : xS) : x_to q_k125 C s (n + 1) 32 z = x_nx q_k125 C s n ((x_st (x_ifeq 40 35)) C z) := x_to_at f125_32 C s n z
theorem f125_35 : x_fetch q_k125 35 = x_ldi 36 1 := rfl
theorem t125_35 (C : xF) (s n : Nat) (z : xS) : x_to q_k125 C s (n + 1) 35 z = x_nx q_k125 C s n ((x_ldi 36 1) C z) := x_to_at f125_35 C s n z
theorem f125_36 : x_fetch q_k125 36 = x_st (x_push 37 (.int (3))) := rfl
theorem t125_36 (C : xF) (s n : Nat) (z : xS) : x_to q_k125 C s (n + 1) 36 z = x_nx q_k125 C s n ((x_st (x_push 37 (.int (3)))) C z) := x_to_at f125_36 C s n z
theorem f125_37 : x_fetch q_k125 37 = x_st (x_icne 44 40) := rfl
theorem t125_37 (C : xF) (s n : Nat) (z : xS) : x_to q_k125 C s (n + 1) 37 z = x_nx q_k125 C s n ((x_st (x_icne 44 40)) C z) := x_to_at f125_37 C s n z
theorem f125_40 : x_fetch q_k125 40 = x_st (x_push 41 (.int (1))) := rfl
theorem t125_40 (C : xF) (s n : Nat) (z : xS) : x_to q_k125 C s (n + 1) 40 z = x_nx q_k125 C s n ((x_st (x_push 41 (.int (1)))) C z) := x_to_at f125_40 C s n z
theorem f125_41 : x_fetch q_k125 41 = x_st (x_goto 45) := rfl
theorem t125_41 (C : xF) (s n : Nat) (z : xS) : x_to q_k125 C s (n + 1) 41 z = x_nx q_k125 C s n ((x_st (x_goto 45)) C z) := x_to_at f125_41 C s n z
theorem f125_44 : x_fetch q_k125 44 = x_st (x_push 45 (.int (0))) := rfl
theorem t125_44 (C : xF) (s n : Nat) (z : xS) : x_to q_k125 C s (n + 1) 44 z = x_nx q_k125 C s n ((x_st (x_push 45 (.int (0)))) C z) := x_to_at f125_44 C s n z
theorem f125_45 : x_fetch q_k125 45 = x_sti 47 7 := rfl
theorem t125_45 (C : xF) (s n : Nat) (z : xS) : x_to q_k125 C s (n + 1) 45 z = x_nx q_k125 C s n ((x_sti 47 7) C z) := x_to_at f125_45 C s n z
theorem f125_47 : x_fetch q_k125 47 = x_ldi 49 7 := rfl
theorem t125_47 (C : xF) (s n : Nat) (z : xS) : x_to q_k125 C s (n + 1) 47 z = x_nx q_k125 C s n ((x_ldi 49 7) C z) := x_to_at f125_47 C s n z
theorem f125_49 : x_fetch q_k125 49 = x_st (x_ifeq 62 52) := rfl
theorem t125_49 (C : xF) (s n : Nat) (z : xS) : x_to q_k125 C s (n + 1) 49 z = x_nx q_k125 C s n ((x_st (x_ifeq 62 52)) C z) := x_to_at f125_49 C s n z
theorem f125_52 : x_fetch q_k125 52 = x_lda 53 0 := rfl
theorem t125_52 (C : xF) (s n : Nat) (z : xS) : x_to q_k125 C s (n + 1) 52 z = x_nx q_k125 C s n ((x_lda 53 0) C z) := x_to_at f125_52 C s n z
theorem f125_53 : x_fetch q_k125 53 = x_ldi 55 4 := rfl
theorem t125_53 (C : xF) (s n : Nat) (z : xS) : x_to q_k125 C s (n + 1) 53 z = x_nx q_k125 C s n ((x_ldi 55 4) C z) := x_to_at f125_53 C s n z
theorem f125_55 : x_fetch q_k125 55 = x_st (x_push 57 (.int (44))) := rfl
theorem t125_55 (C : xF) (s n : Nat) (z : xS) : x_to q_k125 C s (n + 1) 55 z = x_nx q_k125 C s n ((x_st (x_push 57 (.int (44)))) C z) := x_to_at f125_55 C s n z
theorem f125_57 : x_fetch q_k125 57 = x_st (x_push 59 (.int (26))) := rfl
theorem t125_57 (C : xF) (s n : Nat) (z : xS) : x_to q_k125 C s (n + 1) 57 z = x_nx q_k125 C s n ((x_st (x_push 59 (.int (26)))) C z) := x_to_at f125_57 C s n z
theorem f125_59 : x_fetch q_k125 59 = x_cv 62 110 4 8 := rfl
theorem t125_59 (C : xF) (s n : Nat) (z : xS) : x_to q_k125 C s (n + 1) 59 z = x_nx q_k125 C s n ((x_cv 62 110 4 8) C z) := x_to_at f125_59 C s n z
theorem f125_62 : x_fetch q_k125 62 = x_lda 63 0 := rfl
theorem t125_62 (C : xF) (s n : Nat) (z : xS) : x_to q_k125 C s (n + 1) 62 z = x_nx q_k125 C s n ((x_lda 63 0) C z) := x_to_at f125_62 C s n z
theorem f125_63 : x_fetch q_k125 63 = x_gf 66 8 4 := rfl
theorem t125_63 (C : xF) (s n : Nat) (z : xS) : x_to q_k125 C s (n + 1) 63 z = x_nx q_k125 C s n ((x_gf 66 8 4) C z) := x_to_at f125_63 C s n z
theorem f125_66 : x_fetch q_k125 66 = x_st (x_push 68 (.int (7))) := rfl
theorem t125_66 (C : xF) (s n : Nat) (z : xS) : x_to q_k125 C s (n + 1) 66 z = x_nx q_k125 C s n ((x_st (x_push 68 (.int (7)))) C z) := x_to_at f125_66 C s n z
theorem f125_68 : x_fetch q_k125 68 = x_ldi 69 2 := rfl
theorem t125_68 (C : xF) (s n : Nat) (z : xS) : x_to q_k125 C s (n + 1) 68 z = x_nx q_k125 C s n ((x_ldi 69 2) C z) := x_to_at f125_68 C s n z
theorem f125_69 : x_fetch q_k125 69 = x_st (x_bin 70 (fun a b => a * b)) := rfl
theorem t125_69 (C : xF) (s n : Nat) (z : xS) : x_to q_k125 C s (n + 1) 69 z = x_nx q_k125 C s n ((x_st (x_bin 70 (fun a b => a * b))) C z) := x_to_at f125_69 C s n z
theorem f125_70 : x_fetch q_k125 70 = x_ldi 71 3 := rfl
theorem t125_70 (C : xF) (s n : Nat) (z : xS) : x_to q_k125 C s (n + 1) 70 z = x_nx q_k125 C s n ((x_ldi 71 3) C z) := x_to_at f125_70 C s n z
theorem f125_71 : x_fetch q_k125 71 = x_st (x_bin 72 (fun a b => a + b)) := rfl
theorem t125_71 (C : xF) (s n : Nat) (z : xS) : x_to q_k125 C s (n + 1) 71 z = x_nx q_k125 C s n ((x_st (x_bin 72 (fun a b => a + b))) C z) := x_to_at f125_71 C s n z
theorem f125_72 : x_fetch q_k125 72 = x_ald 73 0 := rfl
theorem t125_72 (C : xF) (s n : Nat) (z : xS) : x_to q_k125 C s (n + 1) 72 z = x_nx q_k125 C s n ((x_ald 73 0) C z) := x_to_at f125_72 C s n z
theorem f125_73 : x_fetch q_k125 73 = x_sti 75 8 := rfl
theorem t125_73 (C : xF) (s n : Nat) (z : xS) : x_to q_k125 C s (n + 1) 73 z = x_nx q_k125 C s n ((x_sti 75 8) C z) := x_to_at f125_73 C s n z
theorem f125_75 : x_fetch q_k125 75 = x_ldi 77 7 := rfl
theorem t125_75 (C : xF) (s n : Nat) (z : xS) : x_to q_k125 C s (n + 1) 75 z = x_nx q_k125 C s n ((x_ldi 77 7) C z) := x_to_at f125_75 C s n z
theorem f125_77 : x_fetch q_k125 77 = x_st (x_ifeq 85 80) := rfl
theorem t125_77 (C : xF) (s n : Nat) (z : xS) : x_to q_k125 C s (n + 1) 77 z = x_nx q_k125 C s n ((x_st (x_ifeq 85 80)) C z) := x_to_at f125_77 C s n z
theorem f125_80 : x_fetch q_k125 80 = x_ldi 82 4 := rfl
theorem t125_80 (C : xF) (s n : Nat) (z : xS) : x_to q_k125 C s (n + 1) 80 z = x_nx q_k125 C s n ((x_ldi 82 4) C z) := x_to_at f125_80 C s n z
theorem f125_82 : x_fetch q_k125 82 = x_st (x_goto 86) := rfl
theorem t125_82 (C : xF) (s n : Nat) (z : xS) : x_to q_k125 C s (n + 1) 82 z = x_nx q_k125 C s n ((x_st (x_goto 86)) C z) := x_to_at f125_82 C s n z
theorem f125_85 : x_fetch q_k125 85 = x_ldi 86 2 := rfl
theorem t125_85 (C : xF) (s n : Nat) (z : xS) : x_to q_k125 C s (n + 1) 85 z = x_nx q_k125 C s n ((x_ldi 86 2) C z) := x_to_at f125_85 C s n z
theorem f125_86 : x_fetch q_k125 86 = x_sti 88 9 := rfl
theorem t125_86 (C : xF) (s n : Nat) (z : xS) : x_to q_k125 C s (n + 1) 86 z = x_nx q_k125 C s n ((x_sti 88 9) C z) := x_to_at f125_86 C s n z
theorem f125_88 : x_fetch q_k125 88 = x_ldi 89 1 := rfl
theorem t125_88 (C : xF) (s n : Nat) (z : xS) : x_to q_k125 C s (n + 1) 88 z = x_nx q_k125 C s n ((x_ldi 89 1) C z) := x_to_at f125_88 C s n z
theorem f125_89 : x_fetch q_k125 89 = x_st (x_push 90 (.int (2))) := rfl
theorem t125_89 (C : xF) (s n : Nat) (z : xS) : x_to q_k125 C s (n + 1) 89 z = x_nx q_k125 C s n ((x_st (x_push 90 (.int (2)))) C z) := x_to_at f125_89 C s n z
theorem f125_90 : x_fetch q_k125 90 = x_st (x_icne 98 93) := rfl
theorem t125_90 (C : xF) (s n : Nat) (z : xS) : x_to q_k125 C s (n + 1) 90 z = x_nx q_k125 C s n ((x_st (x_icne 98 93)) C z) := x_to_at f125_90 C s n z
theorem f125_93 : x_fetch q_k125 93 = x_ldi 95 8 := rfl
theorem t125_93 (C : xF) (s n : Nat) (z : xS) : x_to q_k125 C s (n + 1) 93 z = x_nx q_k125 C s n ((x_ldi 95 8) C z) := x_to_at f125_93 C s n z
theorem f125_95 : x_fetch q_k125 95 = x_st (x_goto 123) := rfl
theorem t125_95 (C : xF) (s n : Nat) (z : xS) : x_to q_k125 C s (n + 1) 95 z = x_nx q_k125 C s n ((x_st (x_goto 123)) C z) := x_to_at f125_95 C s n z
theorem f125_98 : x_fetch q_k125 98 = x_ldi 100 7 := rfl
theorem t125_98 (C : xF) (s n : Nat) (z : xS) : x_to q_k125 C s (n + 1) 98 z = x_nx q_k125 C s n ((x_ldi 100 7) C z) := x_to_at f125_98 C s n z
theorem f125_100 : x_fetch q_k125 100 = x_st (x_ifeq 108 103) := rfl
theorem t125_100 (C : xF) (s n : Nat) (z : xS) : x_to q_k125 C s (n + 1) 100 z = x_nx q_k125 C s n ((x_st (x_ifeq 108 103)) C z) := x_to_at f125_100 C s n z
theorem f125_103 : x_fetch q_k125 103 = x_st (x_push 105 (.int (44))) := rfl
theorem t125_103 (C : xF) (s n : Nat) (z : xS) : x_to q_k125 C s (n + 1) 103 z = x_nx q_k125 C s n ((x_st (x_push 105 (.int (44)))) C z) := x_to_at f125_103 C s n z
theorem f125_105 : x_fetch q_k125 105 = x_st (x_goto 109) := rfl
theorem t125_105 (C : xF) (s n : Nat) (z : xS) : x_to q_k125 C s (n + 1) 105 z = x_nx q_k125 C s n ((x_st (x_goto 109)) C z) := x_to_at f125_105 C s n z
theorem f125_108 : x_fetch q_k125 108 = x_st (x_push 109 (.int (0))) := rfl
theorem t125_108 (C : xF) (s n : Nat) (z : xS) : x_to q_k125 C s (n + 1) 108 z = x_nx q_k125 C s n ((x_st (x_push 109 (.int (0)))) C z) := x_to_at f125_108 C s n z
theorem f125_109 : x_fetch q_k125 109 = x_lda 110 0 := rfl
theorem t125_109 (C : xF) (s n : Nat) (z : xS) : x_to q_k125 C s (n + 1) 109 z = x_nx q_k125 C s n ((x_lda 110 0) C z) := x_to_at f125_109 C s n z
theorem f125_110 : x_fetch q_k125 110 = x_gf 113 8 4 := rfl
theorem t125_110 (C : xF) (s n : Nat) (z : xS) : x_to q_k125 C s (n + 1) 110 z = x_nx q_k125 C s n ((x_gf 113 8 4) C z) := x_to_at f125_110 C s n z
theorem f125_113 : x_fetch q_k125 113 = x_st (x_push 115 (.int (7))) := rfl
theorem t125_113 (C : xF) (s n : Nat) (z : xS) : x_to q_k125 C s (n + 1) 113 z = x_nx q_k125 C s n ((x_st (x_push 115 (.int (7)))) C z) := x_to_at f125_113 C s n z
theorem f125_115 : x_fetch q_k125 115 = x_ldi 117 9 := rfl
theorem t125_115 (C : xF) (s n : Nat) (z : xS) : x_to q_k125 C s (n + 1) 115 z = x_nx q_k125 C s n ((x_ldi 117 9) C z) := x_to_at f125_115 C s n z
theorem f125_117 : x_fetch q_k125 117 = x_st (x_bin 118 (fun a b => a * b)) := rfl
theorem t125_117 (C : xF) (s n : Nat) (z : xS) : x_to q_k125 C s (n + 1) 117 z = x_nx q_k125 C s n ((x_st (x_bin 118 (fun a b => a * b))) C z) := x_to_at f125_117 C s n z
theorem f125_118 : x_fetch q_k125 118 = x_ldi 120 5 := rfl
theorem t125_118 (C : xF) (s n : Nat) (z : xS) : x_to q_k125 C s (n + 1) 118 z = x_nx q_k125 C s n ((x_ldi 120 5) C z) := x_to_at f125_118 C s n z
theorem f125_120 : x_fetch q_k125 120 = x_st (x_bin 121 (fun a b => a + b)) := rfl
theorem t125_120 (C : xF) (s n : Nat) (z : xS) : x_to q_k125 C s (n + 1) 120 z = x_nx q_k125 C s n ((x_st (x_bin 121 (fun a b => a + b))) C z) := x_to_at f125_120 C s n z
theorem f125_121 : x_fetch q_k125 121 = x_ald 122 0 := rfl
theorem t125_121 (C : xF) (s n : Nat) (z : xS) : x_to q_k125 C s (n + 1) 121 z = x_nx q_k125 C s n ((x_ald 122 0) C z) := x_to_at f125_121 C s n z
theorem f125_122 : x_fetch q_k125 122 = x_st (x_bin 123 (fun a b => a + b)) := rfl
theorem t125_122 (C : xF) (s n : Nat) (z : xS) : x_to q_k125 C s (n + 1) 122 z = x_nx q_k125 C s n ((x_st (x_bin 123 (fun a b => a + b))) C z) := x_to_at f125_122 C s n z
theorem f125_123 : x_fetch q_k125 123 = x_sti 125 10 := rfl
theorem t125_123 (C : xF) (s n : Nat) (z : xS) : x_to q_k125 C s (n + 1) 123 z = x_nx q_k125 C s n ((x_sti 125 10) C z) := x_to_at f125_123 C s n z
theorem f125_125 : x_fetch q_k125 125 = x_lda 126 0 := rfl
theorem t125_125 (C : xF) (s n : Nat) (z : xS) : x_to q_k125 C s (n + 1) 125 z = x_nx q_k125 C s n ((x_lda 126 0) C z) := x_to_at f125_125 C s n z
theorem f125_126 : x_fetch q_k125 126 = x_gf 129 8 8 := rfl
theorem t125_126 (C : xF) (s n : Nat) (z : xS) : x_to q_k125 C s (n + 1) 126 z = x_nx q_k125 C s n ((x_gf 129 8 8) C z) := x_to_at f125_126 C s n z
theorem f125_129 : x_fetch q_k125 129 = x_st (x_push 131 (.int (7))) := rfl
theorem t125_129 (C : xF) (s n : Nat) (z : xS) : x_to q_k125 C s (n + 1) 129 z = x_nx q_k125 C s n ((x_st (x_push 131 (.int (7)))) C z) := x_to_at f125_129 C s n z
theorem f125_131 : x_fetch q_k125 131 = x_ldi 132 2 := rfl
theorem t125_131 (C : xF) (s n : Nat) (z : xS) : x_to q_k125 C s (n + 1) 131 z = x_nx q_k125 C s n ((x_ldi 132 2) C z) := x_to_at f125_131 C s n z
theorem f125_132 : x_fetch q_k125 132 = x_st (x_bin 133 (fun a b => a * b)) := rfl
theorem t125_132 (C : xF) (s n : Nat) (z : xS) : x_to q_k125 C s (n + 1) 132 z = x_nx q_k125 C s n ((x_st (x_bin 133 (fun a b => a * b))) C z) := x_to_at f125_132 C s n z
theorem f125_133 : x_fetch q_k125 133 = x_ldi 134 3 := rfl
theorem t125_133 (C : xF) (s n : Nat) (z : xS) : x_to q_k125 C s (n + 1) 133 z = x_nx q_k125 C s n ((x_ldi 134 3) C z) := x_to_at f125_133 C s n z
theorem f125_134 : x_fetch q_k125 134 = x_st (x_bin 135 (fun a b => a + b)) := rfl
theorem t125_134 (C : xF) (s n : Nat) (z : xS) : x_to q_k125 C s (n + 1) 134 z = x_nx q_k125 C s n ((x_st (x_bin 135 (fun a b => a + b))) C z) := x_to_at f125_134 C s n z
theorem f125_135 : x_fetch q_k125 135 = x_ald 136 1 := rfl
theorem t125_135 (C : xF) (s n : Nat) (z : xS) : x_to q_k125 C s (n + 1) 135 z = x_nx q_k125 C s n ((x_ald 136 1) C z) := x_to_at f125_135 C s n z
theorem f125_136 : x_fetch q_k125 136 = x_sti 138 11 := rfl
theorem t125_136 (C : xF) (s n : Nat) (z : xS) : x_to q_k125 C s (n + 1) 136 z = x_nx q_k125 C s n ((x_sti 138 11) C z) := x_to_at f125_136 C s n z
theorem f125_138 : x_fetch q_k125 138 = x_ldi 139 1 := rfl
theorem t125_138 (C : xF) (s n : Nat) (z : xS) : x_to q_k125 C s (n + 1) 138 z = x_nx q_k125 C s n ((x_ldi 139 1) C z) := x_to_at f125_138 C s n z
theorem f125_139 : x_fetch q_k125 139 = x_st (x_push 140 (.int (2))) := rfl
theorem t125_139 (C : xF) (s n : Nat) (z : xS) : x_to q_k125 C s (n + 1) 139 z = x_nx q_k125 C s n ((x_st (x_push 140 (.int (2)))) C z) := x_to_at f125_139 C s n z
theorem f125_140 : x_fetch q_k125 140 = x_st (x_iceq 163 143) := rfl
theorem t125_140 (C : xF) (s n : Nat) (z : xS) : x_to q_k125 C s (n + 1) 140 z = x_nx q_k125 C s n ((x_st (x_iceq 163 143)) C z) := x_to_at f125_140 C s n z
theorem f125_143 : x_fetch q_k125 143 = x_lda 144 0 := rfl
theorem t125_143 (C : xF) (s n : Nat) (z : xS) : x_to q_k125 C s (n + 1) 143 z = x_nx q_k125 C s n ((x_lda 144 0) C z) := x_to_at f125_143 C s n z
theorem f125_144 : x_fetch q_k125 144 = x_gf 147 8 8 := rfl
theorem t125_144 (C : xF) (s n : Nat) (z : xS) : x_to q_k125 C s (n + 1) 144 z = x_nx q_k125 C s n ((x_gf 147 8 8) C z) := x_to_at f125_144 C s n z
theorem f125_147 : x_fetch q_k125 147 = x_st (x_push 149 (.int (7))) := rfl
theorem t125_147 (C : xF) (s n : Nat) (z : xS) : x_to q_k125 C s (n + 1) 147 z = x_nx q_k125 C s n ((x_st (x_push 149 (.int (7)))) C z) := x_to_at f125_147 C s n z
theorem f125_149 : x_fetch q_k125 149 = x_ldi 151 9 := rfl
theorem t125_149 (C : xF) (s n : Nat) (z : xS) : x_to q_k125 C s (n + 1) 149 z = x_nx q_k125 C s n ((x_ldi 151 9) C z) := x_to_at f125_149 C s n z
theorem f125_151 : x_fetch q_k125 151 = x_st (x_bin 152 (fun a b => a * b)) := rfl
theorem t125_151 (C : xF) (s n : Nat) (z : xS) : x_to q_k125 C s (n + 1) 151 z = x_nx q_k125 C s n ((x_st (x_bin 152 (fun a b => a * b))) C z) := x_to_at f125_151 C s n z
theorem f125_152 : x_fetch q_k125 152 = x_ldi 154 5 := rfl
theorem t125_152 (C : xF) (s n : Nat) (z : xS) : x_to q_k125 C s (n + 1) 152 z = x_nx q_k125 C s n ((x_ldi 154 5) C z) := x_to_at f125_152 C s n z
theorem f125_154 : x_fetch q_k125 154 = x_st (x_bin 155 (fun a b => a + b)) := rfl
theorem t125_154 (C : xF) (s n : Nat) (z : xS) : x_to q_k125 C s (n + 1) 154 z = x_nx q_k125 C s n ((x_st (x_bin 155 (fun a b => a + b))) C z) := x_to_at f125_154 C s n z
theorem f125_155 : x_fetch q_k125 155 = x_ald 156 1 := rfl
theorem t125_155 (C : xF) (s n : Nat) (z : xS) : x_to q_k125 C s (n + 1) 155 z = x_nx q_k125 C s n ((x_ald 156 1) C z) := x_to_at f125_155 C s n z
theorem f125_156 : x_fetch q_k125 156 = x_st (x_ifeq 163 159) := rfl
theorem t125_156 (C : xF) (s n : Nat) (z : xS) : x_to q_k125 C s (n + 1) 156 z = x_nx q_k125 C s n ((x_st (x_ifeq 163 159)) C z) := x_to_at f125_156 C s n z
theorem f125_159 : x_fetch q_k125 159 = x_st (x_push 160 (.int (1))) := rfl
theorem t125_159 (C : xF) (s n : Nat) (z : xS) : x_to q_k125 C s (n + 1) 159 z = x_nx q_k125 C s n ((x_st (x_push 160 (.int (1)))) C z) := x_to_at f125_159 C s n z
theorem f125_160 : x_fetch q_k125 160 = x_st (x_goto 164) := rfl
theorem t125_160 (C : xF) (s n : Nat) (z : xS) : x_to q_k125 C s (n + 1) 160 z = x_nx q_k125 C s n ((x_st (x_goto 164)) C z) := x_to_at f125_160 C s n z
set_option maxRecDepth 20000 in
theorem f125_163 : x_fetch q_k125 163 = x_st (x_push 164 (.int (0))) := rfl
theorem t125_163 (C : xF) (s n : Nat) (z : xS) : x_to q_k125 C s (n + 1) 163 z = x_nx q_k125 C s n ((x_st (x_push 164 (.int (0)))) C z) := x_to_at f125_163 C s n z
set_option maxRecDepth 20000 in
theorem f125_164 : x_fetch q_k125 164 = x_sti 166 12 := rfl
theorem t125_164 (C : xF) (s n : Nat) (z : xS) : x_to q_k125 C s (n + 1) 164 z = x_nx q_k125 C s n ((x_sti 166 12) C z) := x_to_at f125_164 C s n z
set_option maxRecDepth 20000 in
theorem f125_166 : x_fetch q_k125 166 = x_ldi 167 1 := rfl
theorem t125_166 (C : xF) (s n : Nat) (z : xS) : x_to q_k125 C s (n + 1) 166 z = x_nx q_k125 C s n ((x_ldi 167 1) C z) := x_to_at f125_166 C s n z
set_option maxRecDepth 20000 in
theorem f125_167 : x_fetch q_k125 167 = x_st (x_ifne 185 170) := rfl
theorem t125_167 (C : xF) (s n : Nat) (z : xS) : x_to q_k125 C s (n + 1) 167 z = x_nx q_k125 C s n ((x_st (x_ifne 185 170)) C z) := x_to_at f125_167 C s n z
set_option maxRecDepth 20000 in
theorem f125_170 : x_fetch q_k125 170 = x_ldi 172 11 := rfl
theorem t125_170 (C : xF) (s n : Nat) (z : xS) : x_to q_k125 C s (n + 1) 170 z = x_nx q_k125 C s n ((x_ldi 172 11) C z) := x_to_at f125_170 C s n z
set_option maxRecDepth 20000 in
theorem f125_172 : x_fetch q_k125 172 = x_ldi 174 12 := rfl
theorem t125_172 (C : xF) (s n : Nat) (z : xS) : x_to q_k125 C s (n + 1) 172 z = x_nx q_k125 C s n ((x_ldi 174 12) C z) := x_to_at f125_172 C s n z
set_option maxRecDepth 20000 in
theorem f125_174 : x_fetch q_k125 174 = x_st (x_iceq 181 177) := rfl
theorem t125_174 (C : xF) (s n : Nat) (z : xS) : x_to q_k125 C s (n + 1) 174 z = x_nx q_k125 C s n ((x_st (x_iceq 181 177)) C z) := x_to_at f125_174 C s n z
set_option maxRecDepth 20000 in
theorem f125_177 : x_fetch q_k125 177 = x_st (x_push 178 (.int (1))) := rfl
theorem t125_177 (C : xF) (s n : Nat) (z : xS) : x_to q_k125 C s (n + 1) 177 z = x_nx q_k125 C s n ((x_st (x_push 178 (.int (1)))) C z) := x_to_at f125_177 C s n z
set_option maxRecDepth 20000 in
theorem f125_178 : x_fetch q_k125 178 = x_st (x_goto 243) := rfl
theorem t125_178 (C : xF) (s n : Nat) (z : xS) : x_to q_k125 C s (n + 1) 178 z = x_nx q_k125 C s n ((x_st (x_goto 243)) C z) := x_to_at f125_178 C s n z
set_option maxRecDepth 20000 in
theorem f125_181 : x_fetch q_k125 181 = x_st (x_push 182 (.int (0))) := rfl
theorem t125_181 (C : xF) (s n : Nat) (z : xS) : x_to q_k125 C s (n + 1) 181 z = x_nx q_k125 C s n ((x_st (x_push 182 (.int (0)))) C z) := x_to_at f125_181 C s n z
set_option maxRecDepth 20000 in
theorem f125_182 : x_fetch q_k125 182 = x_st (x_goto 243) := rfl
theorem t125_182 (C : xF) (s n : Nat) (z : xS) : x_to q_k125 C s (n + 1) 182 z = x_nx q_k125 C s n ((x_st (x_goto 243)) C z) := x_to_at f125_182 C s n z
set_option maxRecDepth 20000 in
theorem f125_185 : x_fetch q_k125 185 = x_ldi 186 1 := rfl
theorem t125_185 (C : xF) (s n : Nat) (z : xS) : x_to q_k125 C s (n + 1) 185 z = x_nx q_k125 C s n ((x_ldi 186 1) C z) := x_to_at f125_185 C s n z
set_option maxRecDepth 20000 in
theorem f125_186 : x_fetch q_k125 186 = x_st (x_push 187 (.int (1))) := rfl
theorem t125_186 (C : xF) (s n : Nat) (z : xS) : x_to q_k125 C s (n + 1) 186 z = x_nx q_k125 C s n ((x_st (x_push 187 (.int (1)))) C z) := x_to_at f125_186 C s n z
set_option maxRecDepth 20000 in
theorem f125_187 : x_fetch q_k125 187 = x_st (x_icne 211 190) := rfl
theorem t125_187 (C : xF) (s n : Nat) (z : xS) : x_to q_k125 C s (n + 1) 187 z = x_nx q_k125 C s n ((x_st (x_icne 211 190)) C z) := x_to_at f125_187 C s n z
set_option maxRecDepth 20000 in
theorem f125_190 : x_fetch q_k125 190 = x_ldi 191 3 := rfl
theorem t125_190 (C : xF) (s n : Nat) (z : xS) : x_to q_k125 C s (n + 1) 190 z = x_nx q_k125 C s n ((x_ldi 191 3) C z) := x_to_at f125_190 C s n z
set_option maxRecDepth 20000 in
theorem f125_191 : x_fetch q_k125 191 = x_ldi 193 5 := rfl
theorem t125_191 (C : xF) (s n : Nat) (z : xS) : x_to q_k125 C s (n + 1) 191 z = x_nx q_k125 C s n ((x_ldi 193 5) C z) := x_to_at f125_191 C s n z
set_option maxRecDepth 20000 in
theorem f125_193 : x_fetch q_k125 193 = x_st (x_iceq 207 196) := rfl
theorem t125_193 (C : xF) (s n : Nat) (z : xS) : x_to q_k125 C s (n + 1) 193 z = x_nx q_k125 C s n ((x_st (x_iceq 207 196)) C z) := x_to_at f125_193 C s n z
set_option maxRecDepth 20000 in
theorem f125_196 : x_fetch q_k125 196 = x_ldi 198 11 := rfl
theorem t125_196 (C : xF) (s n : Nat) (z : xS) : x_to q_k125 C s (n + 1) 196 z = x_nx q_k125 C s n ((x_ldi 198 11) C z) := x_to_at f125_196 C s n z
set_option maxRecDepth 20000 in
theorem f125_198 : x_fetch q_k125 198 = x_ldi 200 12 := rfl
theorem t125_198 (C : xF) (s n : Nat) (z : xS) : x_to q_k125 C s (n + 1) 198 z = x_nx q_k125 C s n ((x_ldi 200 12) C z) := x_to_at f125_198 C s n z
set_option maxRecDepth 20000 in
theorem f125_200 : x_fetch q_k125 200 = x_st (x_icne 207 203) := rfl
theorem t125_200 (C : xF) (s n : Nat) (z : xS) : x_to q_k125 C s (n + 1) 200 z = x_nx q_k125 C s n ((x_st (x_icne 207 203)) C z) := x_to_at f125_200 C s n z
set_option maxRecDepth 20000 in
theorem f125_203 : x_fetch q_k125 203 = x_st (x_push 204 (.int (1))) := rfl
theorem t125_203 (C : xF) (s n : Nat) (z : xS) : x_to q_k125 C s (n + 1) 203 z = x_nx q_k125 C s n ((x_st (x_push 204 (.int (1)))) C z) := x_to_at f125_203 C s n z
set_option maxRecDepth 20000 in
theorem f125_204 : x_fetch q_k125 204 = x_st (x_goto 243) := rfl
theorem t125_204 (C : xF) (s n : Nat) (z : xS) : x_to q_k125 C s (n + 1) 204 z = x_nx q_k125 C s n ((x_st (x_goto 243)) C z) := x_to_at f125_204 C s n z
set_option maxRecDepth 20000 in
theorem f125_207 : x_fetch q_k125 207 = x_st (x_push 208 (.int (0))) := rfl
theorem t125_207 (C : xF) (s n : Nat) (z : xS) : x_to q_k125 C s (n + 1) 207 z = x_nx q_k125 C s n ((x_st (x_push 208 (.int (0)))) C z) := x_to_at f125_207 C s n z
set_option maxRecDepth 20000 in
theorem f125_208 : x_fetch q_k125 208 = x_st (x_goto 243) := rfl
theorem t125_208 (C : xF) (s n : Nat) (z : xS) : x_to q_k125 C s (n + 1) 208 z = x_nx q_k125 C s n ((x_st (x_goto 243)) C z) := x_to_at f125_208 C s n z
set_option maxRecDepth 20000 in
theorem f125_211 : x_fetch q_k125 211 = x_lda 212 0 := rfl
theorem t125_211 (C : xF) (s n : Nat) (z : xS) : x_to q_k125 C s (n + 1) 211 z = x_nx q_k125 C s n ((x_lda 212 0) C z) := x_to_at f125_211 C s n z
set_option maxRecDepth 20000 in
theorem f125_212 : x_fetch q_k125 212 = x_gf 215 8 29 := rfl
theorem t125_212 (C : xF) (s n : Nat) (z : xS) : x_to q_k125 C s (n + 1) 212 z = x_nx q_k125 C s n ((x_gf 215 8 29) C z) := x_to_at f125_212 C s n z
set_option maxRecDepth 20000 in
theorem f125_215 : x_fetch q_k125 215 = x_ldi 217 8 := rfl
theorem t125_215 (C : xF) (s n : Nat) (z : xS) : x_to q_k125 C s (n + 1) 215 z = x_nx q_k125 C s n ((x_ldi 217 8) C z) := x_to_at f125_215 C s n z
set_option maxRecDepth 20000 in
theorem f125_217 : x_fetch q_k125 217 = x_ald 218 0 := rfl
theorem t125_217 (C : xF) (s n : Nat) (z : xS) : x_to q_k125 C s (n + 1) 217 z = x_nx q_k125 C s n ((x_ald 218 0) C z) := x_to_at f125_217 C s n z
set_option maxRecDepth 20000 in
theorem f125_218 : x_fetch q_k125 218 = x_st (x_push 220 (.int (99))) := rfl
theorem t125_218 (C : xF) (s n : Nat) (z : xS) : x_to q_k125 C s (n + 1) 218 z = x_nx q_k125 C s n ((x_st (x_push 220 (.int (99)))) C z) := x_to_at f125_218 C s n z
set_option maxRecDepth 20000 in
theorem f125_220 : x_fetch q_k125 220 = x_st (x_icne 242 223) := rfl
theorem t125_220 (C : xF) (s n : Nat) (z : xS) : x_to q_k125 C s (n + 1) 220 z = x_nx q_k125 C s n ((x_st (x_icne 242 223)) C z) := x_to_at f125_220 C s n z
set_option maxRecDepth 20000 in
theorem f125_223 : x_fetch q_k125 223 = x_ldi 225 11 := rfl
theorem t125_223 (C : xF) (s n : Nat) (z : xS) : x_to q_k125 C s (n + 1) 223 z = x_nx q_k125 C s n ((x_ldi 225 11) C z) := x_to_at f125_223 C s n z
set_option maxRecDepth 20000 in
theorem f125_225 : x_fetch q_k125 225 = x_ldi 226 1 := rfl
theorem t125_225 (C : xF) (s n : Nat) (z : xS) : x_to q_k125 C s (n + 1) 225 z = x_nx q_k125 C s n ((x_ldi 226 1) C z) := x_to_at f125_225 C s n z
set_option maxRecDepth 20000 in
theorem f125_226 : x_fetch q_k125 226 = x_st (x_push 227 (.int (2))) := rfl
theorem t125_226 (C : xF) (s n : Nat) (z : xS) : x_to q_k125 C s (n + 1) 226 z = x_nx q_k125 C s n ((x_st (x_push 227 (.int (2)))) C z) := x_to_at f125_226 C s n z
set_option maxRecDepth 20000 in
theorem f125_227 : x_fetch q_k125 227 = x_st (x_icne 234 230) := rfl
theorem t125_227 (C : xF) (s n : Nat) (z : xS) : x_to q_k125 C s (n + 1) 227 z = x_nx q_k125 C s n ((x_st (x_icne 234 230)) C z) := x_to_at f125_227 C s n z
set_option maxRecDepth 20000 in
theorem f125_230 : x_fetch q_k125 230 = x_st (x_push 231 (.int (1))) := rfl
theorem t125_230 (C : xF) (s n : Nat) (z : xS) : x_to q_k125 C s (n + 1) 230 z = x_nx q_k125 C s n ((x_st (x_push 231 (.int (1)))) C z) := x_to_at f125_230 C s n z
set_option maxRecDepth 20000 in
theorem f125_231 : x_fetch q_k125 231 = x_st (x_goto 235) := rfl
theorem t125_231 (C : xF) (s n : Nat) (z : xS) : x_to q_k125 C s (n + 1) 231 z = x_nx q_k125 C s n ((x_st (x_goto 235)) C z) := x_to_at f125_231 C s n z
set_option maxRecDepth 20000 in
theorem f125_234 : x_fetch q_k125 234 = x_st (x_push 235 (.int (0))) := rfl
theorem t125_234 (C : xF) (s n : Nat) (z : xS) : x_to q_k125 C s (n + 1) 234 z = x_nx q_k125 C s n ((x_st (x_push 235 (.int (0)))) C z) := x_to_at f125_234 C s n z
set_option maxRecDepth 20000 in
theorem f125_235 : x_fetch q_k125 235 = x_st (x_icne 242 238) := rfl
theorem t125_235 (C : xF) (s n : Nat) (z : xS) : x_to q_k125 C s (n + 1) 235 z = x_nx q_k125 C s n ((x_st (x_icne 242 238)) C z) := x_to_at f125_235 C s n z
set_option maxRecDepth 20000 in
theorem f125_238 : x_fetch q_k125 238 = x_st (x_push 239 (.int (1))) := rfl
theorem t125_238 (C : xF) (s n : Nat) (z : xS) : x_to q_k125 C s (n + 1) 238 z = x_nx q_k125 C s n ((x_st (x_push 239 (.int (1)))) C z) := x_to_at f125_238 C s n z
set_option maxRecDepth 20000 in
theorem f125_239 : x_fetch q_k125 239 = x_st (x_goto 243) := rfl
theorem t125_239 (C : xF) (s n : Nat) (z : xS) : x_to q_k125 C s (n + 1) 239 z = x_nx q_k125 C s n ((x_st (x_goto 243)) C z) := x_to_at f125_239 C s n z
set_option maxRecDepth 20000 in
theorem f125_242 : x_fetch q_k125 242 = x_st (x_push 243 (.int (0))) := rfl
theorem t125_242 (C : xF) (s n : Nat) (z : xS) : x_to q_k125 C s (n + 1) 242 z = x_nx q_k125 C s n ((x_st (x_push 243 (.int (0)))) C z) := x_to_at f125_242 C s n z
set_option maxRecDepth 20000 in
theorem f125_243 : x_fetch q_k125 243 = x_sti 245 13 := rfl
theorem t125_243 (C : xF) (s n : Nat) (z : xS) : x_to q_k125 C s (n + 1) 243 z = x_nx q_k125 C s n ((x_sti 245 13) C z) := x_to_at f125_243 C s n z
set_option maxRecDepth 20000 in
theorem f125_245 : x_fetch q_k125 245 = x_ldi 247 13 := rfl
theorem t125_245 (C : xF) (s n : Nat) (z : xS) : x_to q_k125 C s (n + 1) 245 z = x_nx q_k125 C s n ((x_ldi 247 13) C z) := x_to_at f125_245 C s n z
set_option maxRecDepth 20000 in
theorem f125_247 : x_fetch q_k125 247 = x_st (x_ifne 253 250) := rfl
theorem t125_247 (C : xF) (s n : Nat) (z : xS) : x_to q_k125 C s (n + 1) 247 z = x_nx q_k125 C s n ((x_st (x_ifne 253 250)) C z) := x_to_at f125_247 C s n z
set_option maxRecDepth 20000 in
theorem f125_250 : x_fetch q_k125 250 = x_st (x_push 252 (.int (-5))) := rfl
theorem t125_250 (C : xF) (s n : Nat) (z : xS) : x_to q_k125 C s (n + 1) 250 z = x_nx q_k125 C s n ((x_st (x_push 252 (.int (-5)))) C z) := x_to_at f125_250 C s n z
set_option maxRecDepth 20000 in
theorem f125_252 : x_fetch q_k125 252 = x_ri (.int) := rfl
theorem t125_252 (C : xF) (s n : Nat) (z : xS) : x_to q_k125 C s (n + 1) 252 z = x_nx q_k125 C s n ((x_ri (.int)) C z) := x_to_at f125_252 C s n z
set_option maxRecDepth 20000 in
theorem f125_253 : x_fetch q_k125 253 = x_ldi 255 8 := rfl
theorem t125_253 (C : xF) (s n : Nat) (z : xS) : x_to q_k125 C s (n + 1) 253 z = x_nx q_k125 C s n ((x_ldi 255 8) C z) := x_to_at f125_253 C s n z
set_option maxRecDepth 20000 in
theorem f125_255 : x_fetch q_k125 255 = x_st (x_push 256 (.int (1))) := rfl
theorem t125_255 (C : xF) (s n : Nat) (z : xS) : x_to q_k125 C s (n + 1) 255 z = x_nx q_k125 C s n ((x_st (x_push 256 (.int (1)))) C z) := x_to_at f125_255 C s n z
set_option maxRecDepth 20000 in
theorem f125_256 : x_fetch q_k125 256 = x_st (x_bin 257 (fun a b => a + b)) := rfl
theorem t125_256 (C : xF) (s n : Nat) (z : xS) : x_to q_k125 C s (n + 1) 256 z = x_nx q_k125 C s n ((x_st (x_bin 257 (fun a b => a + b))) C z) := x_to_at f125_256 C s n z
set_option maxRecDepth 20000 in
theorem f125_257 : x_fetch q_k125 257 = x_sti 259 14 := rfl
theorem t125_257 (C : xF) (s n : Nat) (z : xS) : x_to q_k125 C s (n + 1) 257 z = x_nx q_k125 C s n ((x_sti 259 14) C z) := x_to_at f125_257 C s n z
set_option maxRecDepth 20000 in
theorem f125_259 : x_fetch q_k125 259 = x_lda 260 0 := rfl
theorem t125_259 (C : xF) (s n : Nat) (z : xS) : x_to q_k125 C s (n + 1) 259 z = x_nx q_k125 C s n ((x_lda 260 0) C z) := x_to_at f125_259 C s n z
set_option maxRecDepth 20000 in
theorem f125_260 : x_fetch q_k125 260 = x_gf 263 8 29 := rfl
theorem t125_260 (C : xF) (s n : Nat) (z : xS) : x_to q_k125 C s (n + 1) 260 z = x_nx q_k125 C s n ((x_gf 263 8 29) C z) := x_to_at f125_260 C s n z
set_option maxRecDepth 20000 in
theorem f125_263 : x_fetch q_k125 263 = x_ldi 265 8 := rfl
theorem t125_263 (C : xF) (s n : Nat) (z : xS) : x_to q_k125 C s (n + 1) 263 z = x_nx q_k125 C s n ((x_ldi 265 8) C z) := x_to_at f125_263 C s n z
set_option maxRecDepth 20000 in
theorem f125_265 : x_fetch q_k125 265 = x_ald 266 0 := rfl
theorem t125_265 (C : xF) (s n : Nat) (z : xS) : x_to q_k125 C s (n + 1) 265 z = x_nx q_k125 C s n ((x_ald 266 0) C z) := x_to_at f125_265 C s n z
set_option maxRecDepth 20000 in
theorem f125_266 : x_fetch q_k125 266 = x_st (x_push 268 (.int (99))) := rfl
theorem t125_266 (C : xF) (s n : Nat) (z : xS) : x_to q_k125 C s (n + 1) 266 z = x_nx q_k125 C s n ((x_st (x_push 268 (.int (99)))) C z) := x_to_at f125_266 C s n z
set_option maxRecDepth 20000 in
theorem f125_268 : x_fetch q_k125 268 = x_st (x_icne 280 271) := rfl
theorem t125_268 (C : xF) (s n : Nat) (z : xS) : x_to q_k125 C s (n + 1) 268 z = x_nx q_k125 C s n ((x_st (x_icne 280 271)) C z) := x_to_at f125_268 C s n z
set_option maxRecDepth 20000 in
theorem f125_271 : x_fetch q_k125 271 = x_lda 272 0 := rfl
theorem t125_271 (C : xF) (s n : Nat) (z : xS) : x_to q_k125 C s (n + 1) 271 z = x_nx q_k125 C s n ((x_lda 272 0) C z) := x_to_at f125_271 C s n z
set_option maxRecDepth 20000 in
theorem f125_272 : x_fetch q_k125 272 = x_ldi 274 14 := rfl
theorem t125_272 (C : xF) (s n : Nat) (z : xS) : x_to q_k125 C s (n + 1) 272 z = x_nx q_k125 C s n ((x_ldi 274 14) C z) := x_to_at f125_272 C s n z
set_option maxRecDepth 20000 in
theorem f125_274 : x_fetch q_k125 274 = x_cv 277 109 2 8 := rfl
theorem t125_274 (C : xF) (s n : Nat) (z : xS) : x_to q_k125 C s (n + 1) 274 z = x_nx q_k125 C s n ((x_cv 277 109 2 8) C z) := x_to_at f125_274 C s n z
set_option maxRecDepth 20000 in
theorem f125_277 : x_fetch q_k125 277 = x_st (x_goto 282) := rfl
theorem t125_277 (C : xF) (s n : Nat) (z : xS) : x_to q_k125 C s (n + 1) 277 z = x_nx q_k125 C s n ((x_st (x_goto 282)) C z) := x_to_at f125_277 C s n z
set_option maxRecDepth 20000 in
theorem f125_280 : x_fetch q_k125 280 = x_ldi 282 14 := rfl
theorem t125_280 (C : xF) (s n : Nat) (z : xS) : x_to q_k125 C s (n + 1) 280 z = x_nx q_k125 C s n ((x_ldi 282 14) C z) := x_to_at f125_280 C s n z
set_option maxRecDepth 20000 in
theorem f125_282 : x_fetch q_k125 282 = x_sti 284 15 := rfl
theorem t125_282 (C : xF) (s n : Nat) (z : xS) : x_to q_k125 C s (n + 1) 282 z = x_nx q_k125 C s n ((x_sti 284 15) C z) := x_to_at f125_282 C s n z
set_option maxRecDepth 20000 in
theorem f125_284 : x_fetch q_k125 284 = x_ldi 286 6 := rfl
theorem t125_284 (C : xF) (s n : Nat) (z : xS) : x_to q_k125 C s (n + 1) 284 z = x_nx q_k125 C s n ((x_ldi 286 6) C z) := x_to_at f125_284 C s n z
set_option maxRecDepth 20000 in
theorem f125_286 : x_fetch q_k125 286 = x_st (x_push 288 (.int (100))) := rfl
theorem t125_286 (C : xF) (s n : Nat) (z : xS) : x_to q_k125 C s (n + 1) 286 z = x_nx q_k125 C s n ((x_st (x_push 288 (.int (100)))) C z) := x_to_at f125_286 C s n z
set_option maxRecDepth 20000 in
theorem f125_288 : x_fetch q_k125 288 = x_st (x_iclt 296 291) := rfl
theorem t125_288 (C : xF) (s n : Nat) (z : xS) : x_to q_k125 C s (n + 1) 288 z = x_nx q_k125 C s n ((x_st (x_iclt 296 291)) C z) := x_to_at f125_288 C s n z
set_option maxRecDepth 20000 in
theorem f125_291 : x_fetch q_k125 291 = x_ldi 293 15 := rfl
theorem t125_291 (C : xF) (s n : Nat) (z : xS) : x_to q_k125 C s (n + 1) 291 z = x_nx q_k125 C s n ((x_ldi 293 15) C z) := x_to_at f125_291 C s n z
set_option maxRecDepth 20000 in
theorem f125_293 : x_fetch q_k125 293 = x_st (x_goto 298) := rfl
theorem t125_293 (C : xF) (s n : Nat) (z : xS) : x_to q_k125 C s (n + 1) 293 z = x_nx q_k125 C s n ((x_st (x_goto 298)) C z) := x_to_at f125_293 C s n z
set_option maxRecDepth 20000 in
theorem f125_296 : x_fetch q_k125 296 = x_ldi 298 14 := rfl
theorem t125_296 (C : xF) (s n : Nat) (z : xS) : x_to q_k125 C s (n + 1) 296 z = x_nx q_k125 C s n ((x_ldi 298 14) C z) := x_to_at f125_296 C s n z
set_option maxRecDepth 20000 in
theorem f125_298 : x_fetch q_k125 298 = x_sti 300 16 := rfl
theorem t125_298 (C : xF) (s n : Nat) (z : xS) : x_to q_k125 C s (n + 1) 298 z = x_nx q_k125 C s n ((x_sti 300 16) C z) := x_to_at f125_298 C s n z
set_option maxRecDepth 20000 in
theorem f125_300 : x_fetch q_k125 300 = x_ldi 302 6 := rfl
theorem t125_300 (C : xF) (s n : Nat) (z : xS) : x_to q_k125 C s (n + 1) 300 z = x_nx q_k125 C s n ((x_ldi 302 6) C z) := x_to_at f125_300 C s n z
set_option maxRecDepth 20000 in
theorem f125_302 : x_fetch q_k125 302 = x_st (x_push 304 (.int (100))) := rfl
theorem t125_302 (C : xF) (s n : Nat) (z : xS) : x_to q_k125 C s (n + 1) 302 z = x_nx q_k125 C s n ((x_st (x_push 304 (.int (100)))) C z) := x_to_at f125_302 C s n z
set_option maxRecDepth 20000 in
theorem f125_304 : x_fetch q_k125 304 = x_st (x_iclt 312 307) := rfl
theorem t125_304 (C : xF) (s n : Nat) (z : xS) : x_to q_k125 C s (n + 1) 304 z = x_nx q_k125 C s n ((x_st (x_iclt 312 307)) C z) := x_to_at f125_304 C s n z
set_option maxRecDepth 20000 in
theorem f125_307 : x_fetch q_k125 307 = x_ldi 309 14 := rfl
theorem t125_307 (C : xF) (s n : Nat) (z : xS) : x_to q_k125 C s (n + 1) 307 z = x_nx q_k125 C s n ((x_ldi 309 14) C z) := x_to_at f125_307 C s n z
set_option maxRecDepth 20000 in
theorem f125_309 : x_fetch q_k125 309 = x_st (x_goto 314) := rfl
theorem t125_309 (C : xF) (s n : Nat) (z : xS) : x_to q_k125 C s (n + 1) 309 z = x_nx q_k125 C s n ((x_st (x_goto 314)) C z) := x_to_at f125_309 C s n z
set_option maxRecDepth 20000 in
theorem f125_312 : x_fetch q_k125 312 = x_ldi 314 15 := rfl
theorem t125_312 (C : xF) (s n : Nat) (z : xS) : x_to q_k125 C s (n + 1) 312 z = x_nx q_k125 C s n ((x_ldi 314 15) C z) := x_to_at f125_312 C s n z
set_option maxRecDepth 20000 in
theorem f125_314 : x_fetch q_k125 314 = x_sti 316 17 := rfl
theorem t125_314 (C : xF) (s n : Nat) (z : xS) : x_to q_k125 C s (n + 1) 314 z = x_nx q_k125 C s n ((x_sti 316 17) C z) := x_to_at f125_314 C s n z
set_option maxRecDepth 20000 in
theorem f125_316 : x_fetch q_k125 316 = x_ldi 317 1 := rfl
theorem t125_316 (C : xF) (s n : Nat) (z : xS) : x_to q_k125 C s (n + 1) 316 z = x_nx q_k125 C s n ((x_ldi 317 1) C z) := x_to_at f125_316 C s n z
set_option maxRecDepth 20000 in
theorem f125_317 : x_fetch q_k125 317 = x_st (x_push 318 (.int (3))) := rfl
theorem t125_317 (C : xF) (s n : Nat) (z : xS) : x_to q_k125 C s (n + 1) 317 z = x_nx q_k125 C s n ((x_st (x_push 318 (.int (3)))) C z) := x_to_at f125_317 C s n z
set_option maxRecDepth 20000 in
theorem f125_318 : x_fetch q_k125 318 = x_st (x_icne 358 321) := rfl
theorem t125_318 (C : xF) (s n : Nat) (z : xS) : x_to q_k125 C s (n + 1) 318 z = x_nx q_k125 C s n ((x_st (x_icne 358 321)) C z) := x_to_at f125_318 C s n z
set_option maxRecDepth 20000 in
theorem f125_321 : x_fetch q_k125 321 = x_lda 322 0 := rfl
theorem t125_321 (C : xF) (s n : Nat) (z : xS) : x_to q_k125 C s (n + 1) 321 z = x_nx q_k125 C s n ((x_lda 322 0) C z) := x_to_at f125_321 C s n z
set_option maxRecDepth 20000 in
theorem f125_322 : x_fetch q_k125 322 = x_ldi 324 10 := rfl
theorem t125_322 (C : xF) (s n : Nat) (z : xS) : x_to q_k125 C s (n + 1) 322 z = x_nx q_k125 C s n ((x_ldi 324 10) C z) := x_to_at f125_322 C s n z
set_option maxRecDepth 20000 in
theorem f125_324 : x_fetch q_k125 324 = x_ldi 326 10 := rfl
theorem t125_324 (C : xF) (s n : Nat) (z : xS) : x_to q_k125 C s (n + 1) 324 z = x_nx q_k125 C s n ((x_ldi 326 10) C z) := x_to_at f125_324 C s n z
set_option maxRecDepth 20000 in
theorem f125_326 : x_fetch q_k125 326 = x_lda 327 0 := rfl
theorem t125_326 (C : xF) (s n : Nat) (z : xS) : x_to q_k125 C s (n + 1) 326 z = x_nx q_k125 C s n ((x_lda 327 0) C z) := x_to_at f125_326 C s n z
set_option maxRecDepth 20000 in
theorem f125_327 : x_fetch q_k125 327 = x_ldi 329 9 := rfl
theorem t125_327 (C : xF) (s n : Nat) (z : xS) : x_to q_k125 C s (n + 1) 327 z = x_nx q_k125 C s n ((x_ldi 329 9) C z) := x_to_at f125_327 C s n z
set_option maxRecDepth 20000 in
theorem f125_329 : x_fetch q_k125 329 = x_ldi 331 5 := rfl
theorem t125_329 (C : xF) (s n : Nat) (z : xS) : x_to q_k125 C s (n + 1) 329 z = x_nx q_k125 C s n ((x_ldi 331 5) C z) := x_to_at f125_329 C s n z
set_option maxRecDepth 20000 in
theorem f125_331 : x_fetch q_k125 331 = x_cv 334 126 3 8 := rfl
theorem t125_331 (C : xF) (s n : Nat) (z : xS) : x_to q_k125 C s (n + 1) 331 z = x_nx q_k125 C s n ((x_cv 334 126 3 8) C z) := x_to_at f125_331 C s n z
set_option maxRecDepth 20000 in
theorem f125_334 : x_fetch q_k125 334 = x_st (x_bin 335 (fun a b => a + b)) := rfl
theorem t125_334 (C : xF) (s n : Nat) (z : xS) : x_to q_k125 C s (n + 1) 334 z = x_nx q_k125 C s n ((x_st (x_bin 335 (fun a b => a + b))) C z) := x_to_at f125_334 C s n z
set_option maxRecDepth 20000 in
theorem f125_335 : x_fetch q_k125 335 = x_ldi 337 6 := rfl
theorem t125_335 (C : xF) (s n : Nat) (z : xS) : x_to q_k125 C s (n + 1) 335 z = x_nx q_k125 C s n ((x_ldi 337 6) C z) := x_to_at f125_335 C s n z
set_option maxRecDepth 20000 in
theorem f125_337 : x_fetch q_k125 337 = x_st (x_push 339 (.int (100))) := rfl
theorem t125_337 (C : xF) (s n : Nat) (z : xS) : x_to q_k125 C s (n + 1) 337 z = x_nx q_k125 C s n ((x_st (x_push 339 (.int (100)))) C z) := x_to_at f125_337 C s n z
set_option maxRecDepth 20000 in
theorem f125_339 : x_fetch q_k125 339 = x_st (x_iclt 350 342) := rfl
theorem t125_339 (C : xF) (s n : Nat) (z : xS) : x_to q_k125 C s (n + 1) 339 z = x_nx q_k125 C s n ((x_st (x_iclt 350 342)) C z) := x_to_at f125_339 C s n z
set_option maxRecDepth 20000 in
theorem f125_342 : x_fetch q_k125 342 = x_ldi 344 6 := rfl
theorem t125_342 (C : xF) (s n : Nat) (z : xS) : x_to q_k125 C s (n + 1) 342 z = x_nx q_k125 C s n ((x_ldi 344 6) C z) := x_to_at f125_342 C s n z
set_option maxRecDepth 20000 in
theorem f125_344 : x_fetch q_k125 344 = x_st (x_push 346 (.int (100))) := rfl
theorem t125_344 (C : xF) (s n : Nat) (z : xS) : x_to q_k125 C s (n + 1) 344 z = x_nx q_k125 C s n ((x_st (x_push 346 (.int (100)))) C z) := x_to_at f125_344 C s n z
set_option maxRecDepth 20000 in
theorem f125_346 : x_fetch q_k125 346 = x_st (x_bin 347 (fun a b => a - b)) := rfl
theorem t125_346 (C : xF) (s n : Nat) (z : xS) : x_to q_k125 C s (n + 1) 346 z = x_nx q_k125 C s n ((x_st (x_bin 347 (fun a b => a - b))) C z) := x_to_at f125_346 C s n z
set_option maxRecDepth 20000 in
theorem f125_347 : x_fetch q_k125 347 = x_st (x_goto 352) := rfl
theorem t125_347 (C : xF) (s n : Nat) (z : xS) : x_to q_k125 C s (n + 1) 347 z = x_nx q_k125 C s n ((x_st (x_goto 352)) C z) := x_to_at f125_347 C s n z
set_option maxRecDepth 20000 in
theorem f125_350 : x_fetch q_k125 350 = x_ldi 352 6 := rfl
theorem t125_350 (C : xF) (s n : Nat) (z : xS) : x_to q_k125 C s (n + 1) 350 z = x_nx q_k125 C s n ((x_ldi 352 6) C z) := x_to_at f125_350 C s n z
set_option maxRecDepth 20000 in
theorem f125_352 : x_fetch q_k125 352 = x_cv 355 118 4 8 := rfl
theorem t125_352 (C : xF) (s n : Nat) (z : xS) : x_to q_k125 C s (n + 1) 352 z = x_nx q_k125 C s n ((x_cv 355 118 4 8) C z) := x_to_at f125_352 C s n z
set_option maxRecDepth 20000 in
theorem f125_355 : x_fetch q_k125 355 = x_st (x_goto 359) := rfl
theorem t125_355 (C : xF) (s n : Nat) (z : xS) : x_to q_k125 C s (n + 1) 355 z = x_nx q_k125 C s n ((x_st (x_goto 359)) C z) := x_to_at f125_355 C s n z
set_option maxRecDepth 20000 in
theorem f125_358 : x_fetch q_k125 358 = x_st (x_push 359 (.int (0))) := rfl
theorem t125_358 (C : xF) (s n : Nat) (z : xS) : x_to q_k125 C s (n + 1) 358 z = x_nx q_k125 C s n ((x_st (x_push 359 (.int (0)))) C z) := x_to_at f125_358 C s n z
set_option maxRecDepth 20000 in
theorem f125_359 : x_fetch q_k125 359 = x_sti 361 18 := rfl
theorem t125_359 (C : xF) (s n : Nat) (z : xS) : x_to q_k125 C s (n + 1) 359 z = x_nx q_k125 C s n ((x_sti 361 18) C z) := x_to_at f125_359 C s n z
set_option maxRecDepth 20000 in
theorem f125_361 : x_fetch q_k125 361 = x_ldi 362 1 := rfl
theorem t125_361 (C : xF) (s n : Nat) (z : xS) : x_to q_k125 C s (n + 1) 361 z = x_nx q_k125 C s n ((x_ldi 362 1) C z) := x_to_at f125_361 C s n z
set_option maxRecDepth 20000 in
theorem f125_362 : x_fetch q_k125 362 = x_st (x_push 363 (.int (2))) := rfl
theorem t125_362 (C : xF) (s n : Nat) (z : xS) : x_to q_k125 C s (n + 1) 362 z = x_nx q_k125 C s n ((x_st (x_push 363 (.int (2)))) C z) := x_to_at f125_362 C s n z
set_option maxRecDepth 20000 in
theorem f125_363 : x_fetch q_k125 363 = x_st (x_icge 377 366) := rfl
theorem t125_363 (C : xF) (s n : Nat) (z : xS) : x_to q_k125 C s (n + 1) 363 z = x_nx q_k125 C s n ((x_st (x_icge 377 366)) C z) := x_to_at f125_363 C s n z
set_option maxRecDepth 20000 in
theorem f125_366 : x_fetch q_k125 366 = x_lda 367 0 := rfl
theorem t125_366 (C : xF) (s n : Nat) (z : xS) : x_to q_k125 C s (n + 1) 366 z = x_nx q_k125 C s n ((x_lda 367 0) C z) := x_to_at f125_366 C s n z
set_option maxRecDepth 20000 in
theorem f125_367 : x_fetch q_k125 367 = x_ldi 369 8 := rfl
theorem t125_367 (C : xF) (s n : Nat) (z : xS) : x_to q_k125 C s (n + 1) 367 z = x_nx q_k125 C s n ((x_ldi 369 8) C z) := x_to_at f125_367 C s n z
set_option maxRecDepth 20000 in
theorem f125_369 : x_fetch q_k125 369 = x_ldi 371 10 := rfl
theorem t125_369 (C : xF) (s n : Nat) (z : xS) : x_to q_k125 C s (n + 1) 369 z = x_nx q_k125 C s n ((x_ldi 371 10) C z) := x_to_at f125_369 C s n z
set_option maxRecDepth 20000 in
theorem f125_371 : x_fetch q_k125 371 = x_cv 374 113 3 8 := rfl
theorem t125_371 (C : xF) (s n : Nat) (z : xS) : x_to q_k125 C s (n + 1) 371 z = x_nx q_k125 C s n ((x_cv 374 113 3 8) C z) := x_to_at f125_371 C s n z
set_option maxRecDepth 20000 in
theorem f125_374 : x_fetch q_k125 374 = x_st (x_goto 401) := rfl
theorem t125_374 (C : xF) (s n : Nat) (z : xS) : x_to q_k125 C s (n + 1) 374 z = x_nx q_k125 C s n ((x_st (x_goto 401)) C z) := x_to_at f125_374 C s n z
set_option maxRecDepth 20000 in
theorem f125_377 : x_fetch q_k125 377 = x_ldi 378 1 := rfl
theorem t125_377 (C : xF) (s n : Nat) (z : xS) : x_to q_k125 C s (n + 1) 377 z = x_nx q_k125 C s n ((x_ldi 378 1) C z) := x_to_at f125_377 C s n z
set_option maxRecDepth 20000 in
theorem f125_378 : x_fetch q_k125 378 = x_st (x_push 379 (.int (2))) := rfl
theorem t125_378 (C : xF) (s n : Nat) (z : xS) : x_to q_k125 C s (n + 1) 378 z = x_nx q_k125 C s n ((x_st (x_push 379 (.int (2)))) C z) := x_to_at f125_378 C s n z
set_option maxRecDepth 20000 in
theorem f125_379 : x_fetch q_k125 379 = x_st (x_icne 393 382) := rfl
theorem t125_379 (C : xF) (s n : Nat) (z : xS) : x_to q_k125 C s (n + 1) 379 z = x_nx q_k125 C s n ((x_st (x_icne 393 382)) C z) := x_to_at f125_379 C s n z
set_option maxRecDepth 20000 in
theorem f125_382 : x_fetch q_k125 382 = x_lda 383 0 := rfl
theorem t125_382 (C : xF) (s n : Nat) (z : xS) : x_to q_k125 C s (n + 1) 382 z = x_nx q_k125 C s n ((x_lda 383 0) C z) := x_to_at f125_382 C s n z
set_option maxRecDepth 20000 in
theorem f125_383 : x_fetch q_k125 383 = x_ldi 385 14 := rfl
theorem t125_383 (C : xF) (s n : Nat) (z : xS) : x_to q_k125 C s (n + 1) 383 z = x_nx q_k125 C s n ((x_ldi 385 14) C z) := x_to_at f125_383 C s n z
set_option maxRecDepth 20000 in
theorem f125_385 : x_fetch q_k125 385 = x_ldi 387 15 := rfl
theorem t125_385 (C : xF) (s n : Nat) (z : xS) : x_to q_k125 C s (n + 1) 385 z = x_nx q_k125 C s n ((x_ldi 387 15) C z) := x_to_at f125_385 C s n z
set_option maxRecDepth 20000 in
theorem f125_387 : x_fetch q_k125 387 = x_cv 390 113 3 8 := rfl
theorem t125_387 (C : xF) (s n : Nat) (z : xS) : x_to q_k125 C s (n + 1) 387 z = x_nx q_k125 C s n ((x_cv 390 113 3 8) C z) := x_to_at f125_387 C s n z
set_option maxRecDepth 20000 in
theorem f125_390 : x_fetch q_k125 390 = x_st (x_goto 401) := rfl
theorem t125_390 (C : xF) (s n : Nat) (z : xS) : x_to q_k125 C s (n + 1) 390 z = x_nx q_k125 C s n ((x_st (x_goto 401)) C z) := x_to_at f125_390 C s n z
set_option maxRecDepth 20000 in
theorem f125_393 : x_fetch q_k125 393 = x_lda 394 0 := rfl
theorem t125_393 (C : xF) (s n : Nat) (z : xS) : x_to q_k125 C s (n + 1) 393 z = x_nx q_k125 C s n ((x_lda 394 0) C z) := x_to_at f125_393 C s n z
set_option maxRecDepth 20000 in
theorem f125_394 : x_fetch q_k125 394 = x_ldi 396 16 := rfl
theorem t125_394 (C : xF) (s n : Nat) (z : xS) : x_to q_k125 C s (n + 1) 394 z = x_nx q_k125 C s n ((x_ldi 396 16) C z) := x_to_at f125_394 C s n z
set_option maxRecDepth 20000 in
theorem f125_396 : x_fetch q_k125 396 = x_ldi 398 18 := rfl
theorem t125_396 (C : xF) (s n : Nat) (z : xS) : x_to q_k125 C s (n + 1) 396 z = x_nx q_k125 C s n ((x_ldi 398 18) C z) := x_to_at f125_396 C s n z
set_option maxRecDepth 20000 in
theorem f125_398 : x_fetch q_k125 398 = x_cv 401 113 3 8 := rfl
theorem t125_398 (C : xF) (s n : Nat) (z : xS) : x_to q_k125 C s (n + 1) 398 z = x_nx q_k125 C s n ((x_cv 401 113 3 8) C z) := x_to_at f125_398 C s n z
set_option maxRecDepth 20000 in
theorem f125_401 : x_fetch q_k125 401 = x_sti 403 19 := rfl
theorem t125_401 (C : xF) (s n : Nat) (z : xS) : x_to q_k125 C s (n + 1) 401 z = x_nx q_k125 C s n ((x_sti 403 19) C z) := x_to_at f125_401 C s n z
set_option maxRecDepth 20000 in
theorem f125_403 : x_fetch q_k125 403 = x_ldi 405 19 := rfl
theorem t125_403 (C : xF) (s n : Nat) (z : xS) : x_to q_k125 C s (n + 1) 403 z = x_nx q_k125 C s n ((x_ldi 405 19) C z) := x_to_at f125_403 C s n z
set_option maxRecDepth 20000 in
theorem f125_405 : x_fetch q_k125 405 = x_st (x_ifne 411 408) := rfl
theorem t125_405 (C : xF) (s n : Nat) (z : xS) : x_to q_k125 C s (n + 1) 405 z = x_nx q_k125 C s n ((x_st (x_ifne 411 408)) C z) := x_to_at f125_405 C s n z
set_option maxRecDepth 20000 in
theorem f125_408 : x_fetch q_k125 408 = x_st (x_push 410 (.int (-6))) := rfl
theorem t125_408 (C : xF) (s n : Nat) (z : xS) : x_to q_k125 C s (n + 1) 408 z = x_nx q_k125 C s n ((x_st (x_push 410 (.int (-6)))) C z) := x_to_at f125_408 C s n z
set_option maxRecDepth 20000 in
theorem f125_410 : x_fetch q_k125 410 = x_ri (.int) := rfl
theorem t125_410 (C : xF) (s n : Nat) (z : xS) : x_to q_k125 C s (n + 1) 410 z = x_nx q_k125 C s n ((x_ri (.int)) C z) := x_to_at f125_410 C s n z
set_option maxRecDepth 20000 in
theorem f125_411 : x_fetch q_k125 411 = x_lda 412 0 := rfl
theorem t125_411 (C : xF) (s n : Nat) (z : xS) : x_to q_k125 C s (n + 1) 411 z = x_nx q_k125 C s n ((x_lda 412 0) C z) := x_to_at f125_411 C s n z
set_option maxRecDepth 20000 in
theorem f125_412 : x_fetch q_k125 412 = x_st (x_push 413 (.int (0))) := rfl
theorem t125_412 (C : xF) (s n : Nat) (z : xS) : x_to q_k125 C s (n + 1) 412 z = x_nx q_k125 C s n ((x_st (x_push 413 (.int (0)))) C z) := x_to_at f125_412 C s n z
set_option maxRecDepth 20000 in
theorem f125_413 : x_fetch q_k125 413 = x_pf 416 8 21 (.int) := rfl
theorem t125_413 (C : xF) (s n : Nat) (z : xS) : x_to q_k125 C s (n + 1) 413 z = x_nx q_k125 C s n ((x_pf 416 8 21 (.int)) C z) := x_to_at f125_413 C s n z
set_option maxRecDepth 20000 in
theorem f125_416 : x_fetch q_k125 416 = x_lda 417 0 := rfl
theorem t125_416 (C : xF) (s n : Nat) (z : xS) : x_to q_k125 C s (n + 1) 416 z = x_nx q_k125 C s n ((x_lda 417 0) C z) := x_to_at f125_416 C s n z
set_option maxRecDepth 20000 in
theorem f125_417 : x_fetch q_k125 417 = x_st (x_push 418 (.int (0))) := rfl
theorem t125_417 (C : xF) (s n : Nat) (z : xS) : x_to q_k125 C s (n + 1) 417 z = x_nx q_k125 C s n ((x_st (x_push 418 (.int (0)))) C z) := x_to_at f125_417 C s n z
set_option maxRecDepth 20000 in
theorem f125_418 : x_fetch q_k125 418 = x_pf 421 8 22 (.int) := rfl
theorem t125_418 (C : xF) (s n : Nat) (z : xS) : x_to q_k125 C s (n + 1) 418 z = x_nx q_k125 C s n ((x_pf 421 8 22 (.int)) C z) := x_to_at f125_418 C s n z
set_option maxRecDepth 20000 in
theorem f125_421 : x_fetch q_k125 421 = x_lda 422 0 := rfl
theorem t125_421 (C : xF) (s n : Nat) (z : xS) : x_to q_k125 C s (n + 1) 421 z = x_nx q_k125 C s n ((x_lda 422 0) C z) := x_to_at f125_421 C s n z
set_option maxRecDepth 20000 in
theorem f125_422 : x_fetch q_k125 422 = x_st (x_push 423 (.int (0))) := rfl
theorem t125_422 (C : xF) (s n : Nat) (z : xS) : x_to q_k125 C s (n + 1) 422 z = x_nx q_k125 C s n ((x_st (x_push 423 (.int (0)))) C z) := x_to_at f125_422 C s n z
set_option maxRecDepth 20000 in
theorem f125_423 : x_fetch q_k125 423 = x_pf 426 8 24 (.boolean) := rfl
theorem t125_423 (C : xF) (s n : Nat) (z : xS) : x_to q_k125 C s (n + 1) 423 z = x_nx q_k125 C s n ((x_pf 426 8 24 (.boolean)) C z) := x_to_at f125_423 C s n z
set_option maxRecDepth 20000 in
theorem f125_426 : x_fetch q_k125 426 = x_lda 427 0 := rfl
theorem t125_426 (C : xF) (s n : Nat) (z : xS) : x_to q_k125 C s (n + 1) 426 z = x_nx q_k125 C s n ((x_lda 427 0) C z) := x_to_at f125_426 C s n z
set_option maxRecDepth 20000 in
theorem f125_427 : x_fetch q_k125 427 = x_ldi 428 2 := rfl
theorem t125_427 (C : xF) (s n : Nat) (z : xS) : x_to q_k125 C s (n + 1) 427 z = x_nx q_k125 C s n ((x_ldi 428 2) C z) := x_to_at f125_427 C s n z
set_option maxRecDepth 20000 in
theorem f125_428 : x_fetch q_k125 428 = x_st (x_push 429 (.int (0))) := rfl
theorem t125_428 (C : xF) (s n : Nat) (z : xS) : x_to q_k125 C s (n + 1) 428 z = x_nx q_k125 C s n ((x_st (x_push 429 (.int (0)))) C z) := x_to_at f125_428 C s n z
set_option maxRecDepth 20000 in
theorem f125_429 : x_fetch q_k125 429 = x_ldi 430 1 := rfl
theorem t125_429 (C : xF) (s n : Nat) (z : xS) : x_to q_k125 C s (n + 1) 429 z = x_nx q_k125 C s n ((x_ldi 430 1) C z) := x_to_at f125_429 C s n z
set_option maxRecDepth 20000 in
theorem f125_430 : x_fetch q_k125 430 = x_st (x_push 431 (.int (1))) := rfl
theorem t125_430 (C : xF) (s n : Nat) (z : xS) : x_to q_k125 C s (n + 1) 430 z = x_nx q_k125 C s n ((x_st (x_push 431 (.int (1)))) C z) := x_to_at f125_430 C s n z
set_option maxRecDepth 20000 in
theorem f125_431 : x_fetch q_k125 431 = x_st (x_icne 439 434) := rfl
theorem t125_431 (C : xF) (s n : Nat) (z : xS) : x_to q_k125 C s (n + 1) 431 z = x_nx q_k125 C s n ((x_st (x_icne 439 434)) C z) := x_to_at f125_431 C s n z
set_option maxRecDepth 20000 in
theorem f125_434 : x_fetch q_k125 434 = x_ldi 436 5 := rfl
theorem t125_434 (C : xF) (s n : Nat) (z : xS) : x_to q_k125 C s (n + 1) 434 z = x_nx q_k125 C s n ((x_ldi 436 5) C z) := x_to_at f125_434 C s n z
set_option maxRecDepth 20000 in
theorem f125_436 : x_fetch q_k125 436 = x_st (x_goto 440) := rfl
theorem t125_436 (C : xF) (s n : Nat) (z : xS) : x_to q_k125 C s (n + 1) 436 z = x_nx q_k125 C s n ((x_st (x_goto 440)) C z) := x_to_at f125_436 C s n z
set_option maxRecDepth 20000 in
theorem f125_439 : x_fetch q_k125 439 = x_ldi 440 3 := rfl
theorem t125_439 (C : xF) (s n : Nat) (z : xS) : x_to q_k125 C s (n + 1) 439 z = x_nx q_k125 C s n ((x_ldi 440 3) C z) := x_to_at f125_439 C s n z
set_option maxRecDepth 20000 in
theorem f125_440 : x_fetch q_k125 440 = x_cv 443 117 4 8 := rfl
theorem t125_440 (C : xF) (s n : Nat) (z : xS) : x_to q_k125 C s (n + 1) 440 z = x_nx q_k125 C s n ((x_cv 443 117 4 8) C z) := x_to_at f125_440 C s n z
set_option maxRecDepth 20000 in
theorem f125_443 : x_fetch q_k125 443 = x_ldi 444 1 := rfl
theorem t125_443 (C : xF) (s n : Nat) (z : xS) : x_to q_k125 C s (n + 1) 443 z = x_nx q_k125 C s n ((x_ldi 444 1) C z) := x_to_at f125_443 C s n z
set_option maxRecDepth 20000 in
theorem f125_444 : x_fetch q_k125 444 = x_st (x_ifne 457 447) := rfl
theorem t125_444 (C : xF) (s n : Nat) (z : xS) : x_to q_k125 C s (n + 1) 444 z = x_nx q_k125 C s n ((x_st (x_ifne 457 447)) C z) := x_to_at f125_444 C s n z
set_option maxRecDepth 20000 in
theorem f125_447 : x_fetch q_k125 447 = x_lda 448 0 := rfl
theorem t125_447 (C : xF) (s n : Nat) (z : xS) : x_to q_k125 C s (n + 1) 447 z = x_nx q_k125 C s n ((x_lda 448 0) C z) := x_to_at f125_447 C s n z
set_option maxRecDepth 20000 in
theorem f125_448 : x_fetch q_k125 448 = x_ldi 450 4 := rfl
theorem t125_448 (C : xF) (s n : Nat) (z : xS) : x_to q_k125 C s (n + 1) 448 z = x_nx q_k125 C s n ((x_ldi 450 4) C z) := x_to_at f125_448 C s n z
set_option maxRecDepth 20000 in
theorem f125_450 : x_fetch q_k125 450 = x_st (x_push 452 (.int (44))) := rfl
theorem t125_450 (C : xF) (s n : Nat) (z : xS) : x_to q_k125 C s (n + 1) 450 z = x_nx q_k125 C s n ((x_st (x_push 452 (.int (44)))) C z) := x_to_at f125_450 C s n z
set_option maxRecDepth 20000 in
theorem f125_452 : x_fetch q_k125 452 = x_ldi 454 5 := rfl
theorem t125_452 (C : xF) (s n : Nat) (z : xS) : x_to q_k125 C s (n + 1) 452 z = x_nx q_k125 C s n ((x_ldi 454 5) C z) := x_to_at f125_452 C s n z
set_option maxRecDepth 20000 in
theorem f125_454 : x_fetch q_k125 454 = x_cv 457 117 4 8 := rfl
theorem t125_454 (C : xF) (s n : Nat) (z : xS) : x_to q_k125 C s (n + 1) 454 z = x_nx q_k125 C s n ((x_cv 457 117 4 8) C z) := x_to_at f125_454 C s n z
set_option maxRecDepth 20000 in
theorem f125_457 : x_fetch q_k125 457 = x_ldi 458 1 := rfl
theorem t125_457 (C : xF) (s n : Nat) (z : xS) : x_to q_k125 C s (n + 1) 457 z = x_nx q_k125 C s n ((x_ldi 458 1) C z) := x_to_at f125_457 C s n z
set_option maxRecDepth 20000 in
theorem f125_458 : x_fetch q_k125 458 = x_st (x_push 459 (.int (3))) := rfl
theorem t125_458 (C : xF) (s n : Nat) (z : xS) : x_to q_k125 C s (n + 1) 458 z = x_nx q_k125 C s n ((x_st (x_push 459 (.int (3)))) C z) := x_to_at f125_458 C s n z
set_option maxRecDepth 20000 in
theorem f125_459 : x_fetch q_k125 459 = x_st (x_icne 474 462) := rfl
theorem t125_459 (C : xF) (s n : Nat) (z : xS) : x_to q_k125 C s (n + 1) 459 z = x_nx q_k125 C s n ((x_st (x_icne 474 462)) C z) := x_to_at f125_459 C s n z
set_option maxRecDepth 20000 in
theorem f125_462 : x_fetch q_k125 462 = x_lda 463 0 := rfl
theorem t125_462 (C : xF) (s n : Nat) (z : xS) : x_to q_k125 C s (n + 1) 462 z = x_nx q_k125 C s n ((x_lda 463 0) C z) := x_to_at f125_462 C s n z
set_option maxRecDepth 20000 in
theorem f125_463 : x_fetch q_k125 463 = x_ldi 465 4 := rfl
theorem t125_463 (C : xF) (s n : Nat) (z : xS) : x_to q_k125 C s (n + 1) 463 z = x_nx q_k125 C s n ((x_ldi 465 4) C z) := x_to_at f125_463 C s n z
set_option maxRecDepth 20000 in
theorem f125_465 : x_fetch q_k125 465 = x_ldi 467 5 := rfl
theorem t125_465 (C : xF) (s n : Nat) (z : xS) : x_to q_k125 C s (n + 1) 465 z = x_nx q_k125 C s n ((x_ldi 467 5) C z) := x_to_at f125_465 C s n z
set_option maxRecDepth 20000 in
theorem f125_467 : x_fetch q_k125 467 = x_ldi 469 18 := rfl
theorem t125_467 (C : xF) (s n : Nat) (z : xS) : x_to q_k125 C s (n + 1) 467 z = x_nx q_k125 C s n ((x_ldi 469 18) C z) := x_to_at f125_467 C s n z
set_option maxRecDepth 20000 in
theorem f125_469 : x_fetch q_k125 469 = x_ldi 471 17 := rfl
theorem t125_469 (C : xF) (s n : Nat) (z : xS) : x_to q_k125 C s (n + 1) 469 z = x_nx q_k125 C s n ((x_ldi 471 17) C z) := x_to_at f125_469 C s n z
set_option maxRecDepth 20000 in
theorem f125_471 : x_fetch q_k125 471 = x_cv 474 127 5 8 := rfl
theorem t125_471 (C : xF) (s n : Nat) (z : xS) : x_to q_k125 C s (n + 1) 471 z = x_nx q_k125 C s n ((x_cv 474 127 5 8) C z) := x_to_at f125_471 C s n z
set_option maxRecDepth 20000 in
theorem f125_474 : x_fetch q_k125 474 = x_lda 475 0 := rfl
theorem t125_474 (C : xF) (s n : Nat) (z : xS) : x_to q_k125 C s (n + 1) 474 z = x_nx q_k125 C s n ((x_lda 475 0) C z) := x_to_at f125_474 C s n z
set_option maxRecDepth 20000 in
theorem f125_475 : x_fetch q_k125 475 = x_gf 478 8 24 := rfl
theorem t125_475 (C : xF) (s n : Nat) (z : xS) : x_to q_k125 C s (n + 1) 475 z = x_nx q_k125 C s n ((x_gf 478 8 24) C z) := x_to_at f125_475 C s n z
set_option maxRecDepth 20000 in
theorem f125_478 : x_fetch q_k125 478 = x_st (x_ifne 499 481) := rfl
theorem t125_478 (C : xF) (s n : Nat) (z : xS) : x_to q_k125 C s (n + 1) 478 z = x_nx q_k125 C s n ((x_st (x_ifne 499 481)) C z) := x_to_at f125_478 C s n z
set_option maxRecDepth 20000 in
theorem f125_481 : x_fetch q_k125 481 = x_lda 482 0 := rfl
theorem t125_481 (C : xF) (s n : Nat) (z : xS) : x_to q_k125 C s (n + 1) 481 z = x_nx q_k125 C s n ((x_lda 482 0) C z) := x_to_at f125_481 C s n z
set_option maxRecDepth 20000 in
theorem f125_482 : x_fetch q_k125 482 = x_gf 485 8 22 := rfl
theorem t125_482 (C : xF) (s n : Nat) (z : xS) : x_to q_k125 C s (n + 1) 482 z = x_nx q_k125 C s n ((x_gf 485 8 22) C z) := x_to_at f125_482 C s n z
set_option maxRecDepth 20000 in
theorem f125_485 : x_fetch q_k125 485 = x_st (x_push 487 (.int (6))) := rfl
theorem t125_485 (C : xF) (s n : Nat) (z : xS) : x_to q_k125 C s (n + 1) 485 z = x_nx q_k125 C s n ((x_st (x_push 487 (.int (6)))) C z) := x_to_at f125_485 C s n z
set_option maxRecDepth 20000 in
theorem f125_487 : x_fetch q_k125 487 = x_st (x_icgt 499 490) := rfl
theorem t125_487 (C : xF) (s n : Nat) (z : xS) : x_to q_k125 C s (n + 1) 487 z = x_nx q_k125 C s n ((x_st (x_icgt 499 490)) C z) := x_to_at f125_487 C s n z
set_option maxRecDepth 20000 in
theorem f125_490 : x_fetch q_k125 490 = x_lda 491 0 := rfl
theorem t125_490 (C : xF) (s n : Nat) (z : xS) : x_to q_k125 C s (n + 1) 490 z = x_nx q_k125 C s n ((x_lda 491 0) C z) := x_to_at f125_490 C s n z
set_option maxRecDepth 20000 in
theorem f125_491 : x_fetch q_k125 491 = x_gf 494 8 21 := rfl
theorem t125_491 (C : xF) (s n : Nat) (z : xS) : x_to q_k125 C s (n + 1) 491 z = x_nx q_k125 C s n ((x_gf 494 8 21) C z) := x_to_at f125_491 C s n z
set_option maxRecDepth 20000 in
theorem f125_494 : x_fetch q_k125 494 = x_st (x_push 496 (.int (40))) := rfl
theorem t125_494 (C : xF) (s n : Nat) (z : xS) : x_to q_k125 C s (n + 1) 494 z = x_nx q_k125 C s n ((x_st (x_push 496 (.int (40)))) C z) := x_to_at f125_494 C s n z
set_option maxRecDepth 20000 in
theorem f125_496 : x_fetch q_k125 496 = x_st (x_icle 502 499) := rfl
theorem t125_496 (C : xF) (s n : Nat) (z : xS) : x_to q_k125 C s (n + 1) 496 z = x_nx q_k125 C s n ((x_st (x_icle 502 499)) C z) := x_to_at f125_496 C s n z
set_option maxRecDepth 20000 in
theorem f125_499 : x_fetch q_k125 499 = x_st (x_push 501 (.int (-7))) := rfl
theorem t125_499 (C : xF) (s n : Nat) (z : xS) : x_to q_k125 C s (n + 1) 499 z = x_nx q_k125 C s n ((x_st (x_push 501 (.int (-7)))) C z) := x_to_at f125_499 C s n z
set_option maxRecDepth 20000 in
theorem f125_501 : x_fetch q_k125 501 = x_ri (.int) := rfl
theorem t125_501 (C : xF) (s n : Nat) (z : xS) : x_to q_k125 C s (n + 1) 501 z = x_nx q_k125 C s n ((x_ri (.int)) C z) := x_to_at f125_501 C s n z
set_option maxRecDepth 20000 in
theorem f125_502 : x_fetch q_k125 502 = x_lda 503 0 := rfl
theorem t125_502 (C : xF) (s n : Nat) (z : xS) : x_to q_k125 C s (n + 1) 502 z = x_nx q_k125 C s n ((x_lda 503 0) C z) := x_to_at f125_502 C s n z
set_option maxRecDepth 20000 in
theorem f125_503 : x_fetch q_k125 503 = x_cv 506 106 1 8 := rfl
theorem t125_503 (C : xF) (s n : Nat) (z : xS) : x_to q_k125 C s (n + 1) 503 z = x_nx q_k125 C s n ((x_cv 506 106 1 8) C z) := x_to_at f125_503 C s n z
set_option maxRecDepth 20000 in
theorem f125_506 : x_fetch q_k125 506 = x_lda 507 0 := rfl
theorem t125_506 (C : xF) (s n : Nat) (z : xS) : x_to q_k125 C s (n + 1) 506 z = x_nx q_k125 C s n ((x_lda 507 0) C z) := x_to_at f125_506 C s n z
set_option maxRecDepth 20000 in
theorem f125_507 : x_fetch q_k125 507 = x_gf 510 8 23 := rfl
theorem t125_507 (C : xF) (s n : Nat) (z : xS) : x_to q_k125 C s (n + 1) 507 z = x_nx q_k125 C s n ((x_gf 510 8 23) C z) := x_to_at f125_507 C s n z
set_option maxRecDepth 20000 in
theorem f125_510 : x_fetch q_k125 510 = x_st (x_push 512 (.int (26))) := rfl
theorem t125_510 (C : xF) (s n : Nat) (z : xS) : x_to q_k125 C s (n + 1) 510 z = x_nx q_k125 C s n ((x_st (x_push 512 (.int (26)))) C z) := x_to_at f125_510 C s n z
set_option maxRecDepth 20000 in
theorem f125_512 : x_fetch q_k125 512 = x_st (x_icle 520 515) := rfl
theorem t125_512 (C : xF) (s n : Nat) (z : xS) : x_to q_k125 C s (n + 1) 512 z = x_nx q_k125 C s n ((x_st (x_icle 520 515)) C z) := x_to_at f125_512 C s n z
set_option maxRecDepth 20000 in
theorem f125_515 : x_fetch q_k125 515 = x_st (x_push 517 (.int (-7))) := rfl
theorem t125_515 (C : xF) (s n : Nat) (z : xS) : x_to q_k125 C s (n + 1) 515 z = x_nx q_k125 C s n ((x_st (x_push 517 (.int (-7)))) C z) := x_to_at f125_515 C s n z
set_option maxRecDepth 20000 in
theorem f125_517 : x_fetch q_k125 517 = x_st (x_goto 521) := rfl
theorem t125_517 (C : xF) (s n : Nat) (z : xS) : x_to q_k125 C s (n + 1) 517 z = x_nx q_k125 C s n ((x_st (x_goto 521)) C z) := x_to_at f125_517 C s n z
set_option maxRecDepth 20000 in
theorem f125_520 : x_fetch q_k125 520 = x_st (x_push 521 (.int (0))) := rfl
theorem t125_520 (C : xF) (s n : Nat) (z : xS) : x_to q_k125 C s (n + 1) 520 z = x_nx q_k125 C s n ((x_st (x_push 521 (.int (0)))) C z) := x_to_at f125_520 C s n z
set_option maxRecDepth 20000 in
theorem f125_521 : x_fetch q_k125 521 = x_ri (.int) := rfl
theorem t125_521 (C : xF) (s n : Nat) (z : xS) : x_to q_k125 C s (n + 1) 521 z = x_nx q_k125 C s n ((x_ri (.int)) C z) := x_to_at f125_521 C s n z
def kdR (j : Nat) : Nat := if j = 33 ∨ j = 34 ∨ j = 41 ∨ j = 44 then 1 else if j = 37 then 2 else 0
def lnR (j : Nat) : Nat := ([1320, 210, 30, 30, 30, 210, 30, 26, 26, 60, 600, 14, 52, 14, 60, 8, 8, 160, 52, 400, 400, 400, 400, 6] : List Nat).getD (j - 28) 0
def RO (w : Nat → xC) (m : Nat → Int) (x : Nat → List Int) : Prop := w 27 = .inr (8, mF m) ∧ ∀ j, 28 ≤ j → j ≤ 51 → w j = cI (kdR j) (x j) ∧ (x j).length = lnR j
theorem RO.upd {w w' : Nat → xC} {m m' : Nat → Int} {x x' : Nat → List Int} {ks : List Nat} (h : RO w m x) (f : Fr (27 :: ks) w w') (hm : w' 27 = .inr (8, mF m')) (h1 : ∀ j ∈ ks, w' j = cI (kdR j) (x' j) ∧ (x' j).length = lnR j) (h2 : ∀ j, ¬ j ∈ ks → x' j = x j) : RO w' m' x' := by
  refine ⟨hm, fun j j0 j1 => ?_⟩
  by_cases hj : j ∈ ks
  · exact h1 j hj
  · rw [h2 j hj, f j (by
      intro z
      rcases List.mem_cons.mp z with z | z
      · omega
      · exact hj z)]
    exact h.2 j j0 j1
theorem RO.le {w w' : Nat → xC} {m m' : Nat → Int} {x x' : Nat → List Int} {N : Nat} (h : RO w m x) (g : RO w' m' x') (f : ∀ j, j < 27 ∨ 51 < j → x_c1 (w j) ≤ x_c1 (w' j)) : x_le (hp w N) (hp w' N) := hp_le (Nat.le_refl _) (fun j _ => by
  by_cases h27 : j = 27
  · subst h27
    rw [h.1, g.1]
    simp [x_c1, mF_len]
  · by_cases hr : 28 ≤ j ∧ j ≤ 51
    · have a := h.2 j hr.1 hr.2
      have b := g.2 j hr.1 hr.2
      rw [a.1, b.1]
      simp [x_c1, a.2, b.2]
    · exact f j (by omega))
/-- rows that hold for good -/
def RI (x : Nat → List Int) : Prop := SOK (x 45) ∧ (∀ i, gZ (x 41) i = 0 ∨ gZ (x 41) i = 1) ∧ (∀ i, 0 ≤ gZ (x 28) i ∧ gZ (x 28) i < 100000) ∧ gZ (x 39) 0 = 0
theorem RO.wk {w : Nat → xC} {m : Nat → Int} {x : Nat → List Int} (h : RO w m x) (hi : ∀ i, gZ (x 41) i = 0 ∨ gZ (x 41) i = 1) (h0 : gZ (x 39) 0 = 0) : WK w m (x 38) (x 39) (x 41) (x 49) (x 50) :=
  ⟨h.1, (h.2 38 (by decide) (by decide)).1, (h.2 38 (by decide) (by decide)).2, (h.2 39 (by decide) (by decide)).1, (h.2 39 (by decide) (by decide)).2, (h.2 41 (by decide) (by decide)).1, (h.2 41 (by decide) (by decide)).2, (h.2 49 (by decide) (by decide)).1, (h.2 49 (by decide) (by decide)).2, (h.2 50 (by decide) (by decide)).1, (h.2 50 (by decide) (by decide)).2, hi, h0⟩
/-- a clause among the clauses, with its signs -/
def RD (c : Int) (D : List (Int × List Int)) (x : Nat → List Int) : Prop := RC c D (x 30) (x 29) (x 33) ∧ gC D ∧ ∀ j : Nat, j < (flt D).length → gZ (x 28) (44 * c + j) = (flt D).getD j 0
def shH (hg : Int) (D : List (Int × List Int)) : List (Int × List Int) := D.map (litR (fun v => v + hg))
theorem shH_0 (D : List (Int × List Int)) : shH 0 D = D := by
  unfold shH
  have : D.map (litR (fun v => v + 0)) = D.map id := by
    apply List.map_congr_left
    intro x _
    show (x.1, ren (fun v => v + 0) x.2) = x
    have e : ren (fun v => v + 0) x.2 = x.2 := by
      unfold ren
      have : x.2.map (fun s => if s < 99 then s + 0 else s) = x.2.map id := by
        apply List.map_congr_left
        intro s _
        show (if s < 99 then s + 0 else s) = s
        split <;> omega
      rw [this, List.map_id]
    rw [e]
  rw [this, List.map_id]
theorem fvs_len : ∀ (t q : List Int), (fvs q t).length ≤ q.length + t.length
  | [], q => by simp [fvs]
  | s :: t, q => by
    unfold fvs
    split
    · have := fvs_len t (q ++ [s])
      simp only [List.length_append, List.length_cons, List.length_nil] at this ⊢
      omega
    · have := fvs_len t q
      simp only [List.length_cons]
      omega
section LY
variable {w : Nat → xC} {N : Nat} {m : Nat → Int} {x : Nat → List Int} {D : List (Int × List Int)} {c : Int}
theorem A110 (d : Nat) (hN : 53 ≤ N) (h : RO w m x) (hI : RI x) (hD : RD c D x) (to hg : Int) (ht : to = 0 ∨ to = 44) (hh : hg = 0 ∨ hg = 26) :
    ∃ S' : List Int, S'.length = 160 ∧ SOK S' ∧ LD to (shH hg D) S' ∧ (∀ i, 0 ≤ i → i < to → gZ S' i = gZ (x 45) i) ∧ Xc (d + 1) 110 [.ref 30, .int (iZ c), .int (iZ to), .int (iZ hg)] (hp w N) (none, hp (uH w 45 (cI 0 S')) N) := by
  obtain ⟨⟨a1, a2, a3, a4, a5, a6, a7, a8, a9⟩, g, hs⟩ := hD
  have e8 := a8 D.length (Nat.le_refl _)
  rw [stC_all, ← a7] at e8
  have g2 := g.2.1
  have s4 : (x 45).length = 160 := (h.2 45 (by decide) (by decide)).2
  have hX := m110 d hN h.1 (h.2 28 (by decide) (by decide)).1 (h.2 28 (by decide) (by decide)).2 (h.2 29 (by decide) (by decide)).1 (h.2 29 (by decide) (by decide)).2 (h.2 30 (by decide) (by decide)).1 (h.2 30 (by decide) (by decide)).2 (h.2 45 (by decide) (by decide)).1 s4 hI.2.2.1 c to hg a4 a5 (by omega) (by omega) (by omega) (by omega) (by omega) (by omega) (by omega) (by omega)
  rw [e8] at hX
  have en : (((flt D).length : Nat) : Int).toNat = (flt D).length := by omega
  rw [en] at hX
  have hat : ∀ j, 0 ≤ j → gZ (cpl to (fun k => shf hg (gZ (x 28) (44 * c + k))) (flt D).length 0 (x 45)) j = if to ≤ j ∧ j < to + (flt D).length then shf hg ((flt D).getD (j - to).toNat 0) else gZ (x 45) j := fun j j0 => by
    rw [cpl_at (by omega) (by omega) j0, Int.add_zero]
    by_cases hj : to ≤ j ∧ j < to + (flt D).length
    · rw [if_pos hj, if_pos hj]
      have := hs (j - to).toNat (by omega)
      rw [show (((j - to).toNat : Nat) : Int) = j - to by omega] at this
      rw [this]
    · rw [if_neg hj, if_neg hj]
  have hval : ∀ q : Nat, q < (flt D).length → 0 ≤ shf hg ((flt D).getD q 0) ∧ shf hg ((flt D).getD q 0) < 100000 ∧ (shf hg ((flt D).getD q 0) < 99 → shf hg ((flt D).getD q 0) < 52) := fun q hq => by
    obtain ⟨y, hy, hz⟩ := flt_of (getD_mem hq)
    have g3 := (g.2.2 y hy).2.2 _ hz
    unfold shf
    split
    · next h9 =>
      have := g3.2.2 h9
      omega
    · omega
  refine ⟨_, by rw [cpl_len]; exact s4, ⟨by rw [cpl_len]; exact s4, fun i => ?_, fun i hi => ?_⟩, ⟨by omega, ?_, fun j hj => ?_⟩, fun i i0 i1 => ?_, hX⟩
  · by_cases i0 : 0 ≤ i
    · rw [hat i i0]
      split
      · next hj =>
        have := hval (i - to).toNat (by omega)
        exact ⟨this.1, this.2.1⟩
      · exact hI.1.2.1 i
    · have e : gZ (cpl to (fun k => shf hg (gZ (x 28) (44 * c + k))) (flt D).length 0 (x 45)) i = gZ (cpl to (fun k => shf hg (gZ (x 28) (44 * c + k))) (flt D).length 0 (x 45)) 0 := by
        unfold gZ
        rw [show i.toNat = (0 : Int).toNat by omega]
      rw [e, hat 0 (by omega)]
      split
      · next hj =>
        have := hval ((0 : Int) - to).toNat (by omega)
        exact ⟨this.1, this.2.1⟩
      · exact hI.1.2.1 0
  · by_cases i0 : 0 ≤ i
    · rw [hat i i0] at hi ⊢
      by_cases hj : to ≤ i ∧ i < to + (flt D).length
      · rw [if_pos hj] at hi ⊢
        exact (hval (i - to).toNat (by omega)).2.2 hi
      · rw [if_neg hj] at hi ⊢
        exact hI.1.2.2 i hi
    · have e : gZ (cpl to (fun k => shf hg (gZ (x 28) (44 * c + k))) (flt D).length 0 (x 45)) i = gZ (cpl to (fun k => shf hg (gZ (x 28) (44 * c + k))) (flt D).length 0 (x 45)) 0 := by
        unfold gZ
        rw [show i.toNat = (0 : Int).toNat by omega]
      rw [e, hat 0 (by omega)] at hi ⊢
      by_cases hj : to ≤ 0 ∧ (0 : Int) < to + (flt D).length
      · rw [if_pos hj] at hi ⊢
        exact (hval ((0 : Int) - to).toNat (by omega)).2.2 hi
      · rw [if_neg hj] at hi ⊢
        exact hI.1.2.2 0 hi
  · unfold shH
    rw [flt_ren, ren_len]
    omega
  · unfold shH at hj ⊢
    rw [flt_ren, ren_len] at hj
    rw [flt_ren, hat _ (by omega), if_pos (by omega), ren_getD hj, show (to + (j : Int) - to).toNat = j by omega]
    rfl
  · rw [hat i i0, if_neg (by omega)]
def mFr9 (m m' : Nat → Int) : Prop := ∀ i, i ≠ 7 → i ≠ 8 → i ≠ 9 → i ≠ 10 → m' i = m i
def ksM : List Nat := [27, 38, 39, 40, 41, 49, 50]
set_option maxHeartbeats 1000000 in
theorem g125_474 (d : Nat) (hN : 53 ≤ N) {R Sa Mi St En Mp : List Int} (hK : WK w m R Sa Mi St En) (hM : w 40 = cI 0 Mp) (s2 : Mp.length = 52) (o : Option (List (Int × List Int))) (hB : BtS o m R Sa Mi) (hC : ∀ C, o = some C → C.length ≤ 12) (lv : xL) (hc : c1 lv) (l0 : x_lk lv 0 = some (.ref 30)) :
    ∃ (r : Int) (w' : Nat → xC) (m' : Nat → Int) (R' Mp' : List Int), Fr ksM w w' ∧ WK w' m' R' Sa Mi St En ∧ w' 40 = cI 0 Mp' ∧ Mp'.length = 52 ∧ mFr9 m m' ∧ Gx q_k125 (d + 1) 474 (lv, [], hp w N) (some (.int (iZ r)), hp w' N) ∧ ((r = -7 ∧ ∀ C, o = some C → ¬ (C.length ≤ 6 ∧ (flt C).length ≤ 40 ∧ (fvs [] (flt C)).length ≤ 26)) ∨ (r = 0 ∧ ∃ C, o = some C ∧ (C.length ≤ 6 ∧ (flt C).length ≤ 40 ∧ (fvs [] (flt C)).length ≤ 26) ∧ RW (rnD C) R' Sa Mi ∧ m' 8 = C.length ∧ m' 7 = (flt C).length)) := by
  have hm := hK.1
  cases o with
  | none =>
    have h10 : m 10 = 1 := hB
    refine ⟨-7, w, m, R, Mp, Fr.rf _ _, hK, hM, s2, fun _ _ _ _ _ => rfl, Gx.fin 20 Cs.tt (fun C _ => ?_), Or.inl ⟨rfl, fun C e => by cases e⟩⟩
    simp (disch := first | (refine c1_id ?_; assumption) | (refine c1_st rfl ?_; repeat (first | assumption | refine c1_st rfl ?_)) | omega) [nx_l, nx_r, nx_n, x_st, x_push, x_bin, x_div, x_un, x_dup, x_pop, x_dup2, x_goto, x_ifeq, x_ifne, x_iflt, x_ifge, x_ifgt, x_ifle, x_iceq, x_icne, x_iclt, x_icge, x_icgt, x_icle, x_ifnull, x_ifnonnull, x_ldi, x_lda, x_sti, x_sta, x_iinc, x_gf, x_pf, x_ald, x_ast, x_aln, x_len, x_cl_, x_cv, x_cs, x_rc, x_r0, x_isT, x_oi, x_rv, x_ri, x_ra, Value.category, t125_0, t125_1, t125_3, t125_5, t125_7, t125_10, t125_11, t125_14, t125_16, t125_17, t125_18, t125_21, t125_24, t125_25, t125_26, t125_27, t125_28, t125_31, t125_32, t125_35, t125_36, t125_37, t125_40, t125_41, t125_44, t125_45, t125_47, t125_49, t125_52, t125_53, t125_55, t125_57, t125_59, t125_62, t125_63, t125_66, t125_68, t125_69, t125_70, t125_71, t125_72, t125_73, t125_75, t125_77, t125_80, t125_82, t125_85, t125_86, t125_88, t125_89, t125_90, t125_93, t125_95, t125_98, t125_100, t125_103, t125_105, t125_108, t125_109, t125_110, t125_113, t125_115, t125_117, t125_118, t125_120, t125_121, t125_122, t125_123, t125_125, t125_126, t125_129, t125_131, t125_132, t125_133, t125_134, t125_135, t125_136, t125_138, t125_139, t125_140, t125_143, t125_144, t125_147, t125_149, t125_151, t125_152, t125_154, t125_155, t125_156, t125_159, t125_160, t125_163, t125_164, t125_166, t125_167, t125_170, t125_172, t125_174, t125_177, t125_178, t125_181, t125_182, t125_185, t125_186, t125_187, t125_190, t125_191, t125_193, t125_196, t125_198, t125_200, t125_203, t125_204, t125_207, t125_208, t125_211, t125_212, t125_215, t125_217, t125_218, t125_220, t125_223, t125_225, t125_226, t125_227, t125_230, t125_231, t125_234, t125_235, t125_238, t125_239, t125_242, t125_243, t125_245, t125_247, t125_250, t125_252, t125_253, t125_255, t125_256, t125_257, t125_259, t125_260, t125_263, t125_265, t125_266, t125_268, t125_271, t125_272, t125_274, t125_277, t125_280, t125_282, t125_284, t125_286, t125_288, t125_291, t125_293, t125_296, t125_298, t125_300, t125_302, t125_304, t125_307, t125_309, t125_312, t125_314, t125_316, t125_317, t125_318, t125_321, t125_322, t125_324, t125_326, t125_327, t125_329, t125_331, t125_334, t125_335, t125_337, t125_339, t125_342, t125_344, t125_346, t125_347, t125_350, t125_352, t125_355, t125_358, t125_359, t125_361, t125_362, t125_363, t125_366, t125_367, t125_369, t125_371, t125_374, t125_377, t125_378, t125_379, t125_382, t125_383, t125_385, t125_387, t125_390, t125_393, t125_394, t125_396, t125_398, t125_401, t125_403, t125_405, t125_408, t125_410, t125_411, t125_412, t125_413, t125_416, t125_417, t125_418, t125_421, t125_422, t125_423, t125_426, t125_427, t125_428, t125_429, t125_430, t125_431, t125_434, t125_436, t125_439, t125_440, t125_443, t125_444, t125_447, t125_448, t125_450, t125_452, t125_454, t125_457, t125_458, t125_459, t125_462, t125_463, t125_465, t125_467, t125_469, t125_471, t125_474, t125_475, t125_478, t125_481, t125_482, t125_485, t125_487, t125_490, t125_491, t125_494, t125_496, t125_499, t125_501, t125_502, t125_503, t125_506, t125_507, t125_510, t125_512, t125_515, t125_517, t125_520, t125_521, lk_s, hp_get, hp_set, uH_at, uH_ne, uH_upd, uH_swap, iZ_add, iZ_sub, iZ_mul, iZ_neg, iZ_lt, iZ_le, iZ_eq, iZ_div, iZ_of, ix_Z, gZ_map, gZ_mapI, gZ_map', le_0, le_s, sZ_map, sZ_len, bZ_0, bZ_inj, bZ_t, bZ_f, nr_i, nr_0, nr_1, nr_b, ft_i, ft_b, ft_0, ft_1, zl_0, zl_1, zl_2, zl_3, zl_5, zl_6, zl_7, zl_26, zl_40, zl_44, zl_52, zl_99, zl_100, mF_len, mg_0, mg_1, mg_2, mg_3, mg_4, mg_5, mg_6, mg_7, mg_8, mg_9, mg_10, mg_11, mg_12, mg_13, mg_14, mg_15, mg_16, mg_17, mg_18, mg_19, mg_20, mg_21, mg_22, mg_23, mg_24, mg_25, mg_26, mg_27, mg_28, mg_29, mg_30, mg_31, mg_32, mg_33, mg_34, mg_35, mg_36, mg_37, mg_38, ms_0, ms_1, ms_2, ms_13, ms_14, ms_15, ms_16, ms_21, ms_22, ms_23, ms_24, ms_28, ms_36, ms_37, ms_38, st_at, st_ne, st_st, st_swap, l0, hm, h10, -List.filter_filter, -List.getElem?_map, -List.getD_eq_getElem?_getD]
  | some C =>
    obtain ⟨b1, b2, b3, b4, b5, b6⟩ := hB
    have hC1 := hC C rfl
    by_cases z1 : C.length ≤ 6
    · by_cases z2 : (flt C).length ≤ 40
      · obtain ⟨w', R', Mp', f1, k1, k2, k3, k4, k5, k6, k7⟩ := m106 d hN hm hK.2.1 hK.2.2.1 hM s2 b1 b5 b4 (by omega)
        have y1 : ¬ (6 : Int) < m 8 := by omega
        have y2 : m 7 ≤ (40 : Int) := by omega
        have fr : Fr ksM w w' := f1.sub (fun j hj => by
          simp only [List.mem_cons, List.not_mem_nil, or_false] at hj
          rcases hj with rfl | rfl | rfl <;> decide)
        have hK' : WK w' (st_ m 9 (fvs [] (flt C)).length) R' Sa Mi St En := by
          obtain ⟨j1, j2, j3, j4, j5, j6, j7, j8, j9, j10, j11, j12⟩ := hK
          exact ⟨k1, k2, k3, (f1 39 (by decide)).trans j4, j5, (f1 41 (by decide)).trans j6, j7, (f1 49 (by decide)).trans j8, j9, (f1 50 (by decide)).trans j10, j11, j12⟩
        have hmf : mFr9 m (st_ m 9 (fvs [] (flt C)).length) := fun i _ _ i9 _ => st_ne i9
        by_cases z3 : (fvs [] (flt C)).length ≤ 26
        · have y3 : ((fvs [] (flt C)).length : Int) ≤ 26 := by omega
          refine ⟨0, w', _, R', Mp', fr, hK', k4, k5, hmf, Gx.fin 60 k7 (fun C mm => ?_), Or.inr ⟨rfl, C, rfl, ⟨z1, z2, z3⟩, k6, ?_, ?_⟩⟩
          · simp (disch := first | (refine c1_id ?_; assumption) | (refine c1_st rfl ?_; repeat (first | assumption | refine c1_st rfl ?_)) | omega) [nx_l, nx_r, nx_n, x_st, x_push, x_bin, x_div, x_un, x_dup, x_pop, x_dup2, x_goto, x_ifeq, x_ifne, x_iflt, x_ifge, x_ifgt, x_ifle, x_iceq, x_icne, x_iclt, x_icge, x_icgt, x_icle, x_ifnull, x_ifnonnull, x_ldi, x_lda, x_sti, x_sta, x_iinc, x_gf, x_pf, x_ald, x_ast, x_aln, x_len, x_cl_, x_cv, x_cs, x_rc, x_r0, x_isT, x_oi, x_rv, x_ri, x_ra, Value.category, t125_0, t125_1, t125_3, t125_5, t125_7, t125_10, t125_11, t125_14, t125_16, t125_17, t125_18, t125_21, t125_24, t125_25, t125_26, t125_27, t125_28, t125_31, t125_32, t125_35, t125_36, t125_37, t125_40, t125_41, t125_44, t125_45, t125_47, t125_49, t125_52, t125_53, t125_55, t125_57, t125_59, t125_62, t125_63, t125_66, t125_68, t125_69, t125_70, t125_71, t125_72, t125_73, t125_75, t125_77, t125_80, t125_82, t125_85, t125_86, t125_88, t125_89, t125_90, t125_93, t125_95, t125_98, t125_100, t125_103, t125_105, t125_108, t125_109, t125_110, t125_113, t125_115, t125_117, t125_118, t125_120, t125_121, t125_122, t125_123, t125_125, t125_126, t125_129, t125_131, t125_132, t125_133, t125_134, t125_135, t125_136, t125_138, t125_139, t125_140, t125_143, t125_144, t125_147, t125_149, t125_151, t125_152, t125_154, t125_155, t125_156, t125_159, t125_160, t125_163, t125_164, t125_166, t125_167, t125_170, t125_172, t125_174, t125_177, t125_178, t125_181, t125_182, t125_185, t125_186, t125_187, t125_190, t125_191, t125_193, t125_196, t125_198, t125_200, t125_203, t125_204, t125_207, t125_208, t125_211, t125_212, t125_215, t125_217, t125_218, t125_220, t125_223, t125_225, t125_226, t125_227, t125_230, t125_231, t125_234, t125_235, t125_238, t125_239, t125_242, t125_243, t125_245, t125_247, t125_250, t125_252, t125_253, t125_255, t125_256, t125_257, t125_259, t125_260, t125_263, t125_265, t125_266, t125_268, t125_271, t125_272, t125_274, t125_277, t125_280, t125_282, t125_284, t125_286, t125_288, t125_291, t125_293, t125_296, t125_298, t125_300, t125_302, t125_304, t125_307, t125_309, t125_312, t125_314, t125_316, t125_317, t125_318, t125_321, t125_322, t125_324, t125_326, t125_327, t125_329, t125_331, t125_334, t125_335, t125_337, t125_339, t125_342, t125_344, t125_346, t125_347, t125_350, t125_352, t125_355, t125_358, t125_359, t125_361, t125_362, t125_363, t125_366, t125_367, t125_369, t125_371, t125_374, t125_377, t125_378, t125_379, t125_382, t125_383, t125_385, t125_387, t125_390, t125_393, t125_394, t125_396, t125_398, t125_401, t125_403, t125_405, t125_408, t125_410, t125_411, t125_412, t125_413, t125_416, t125_417, t125_418, t125_421, t125_422, t125_423, t125_426, t125_427, t125_428, t125_429, t125_430, t125_431, t125_434, t125_436, t125_439, t125_440, t125_443, t125_444, t125_447, t125_448, t125_450, t125_452, t125_454, t125_457, t125_458, t125_459, t125_462, t125_463, t125_465, t125_467, t125_469, t125_471, t125_474, t125_475, t125_478, t125_481, t125_482, t125_485, t125_487, t125_490, t125_491, t125_494, t125_496, t125_499, t125_501, t125_502, t125_503, t125_506, t125_507, t125_510, t125_512, t125_515, t125_517, t125_520, t125_521, lk_s, hp_get, hp_set, uH_at, uH_ne, uH_upd, uH_swap, iZ_add, iZ_sub, iZ_mul, iZ_neg, iZ_lt, iZ_le, iZ_eq, iZ_div, iZ_of, ix_Z, gZ_map, gZ_mapI, gZ_map', le_0, le_s, sZ_map, sZ_len, bZ_0, bZ_inj, bZ_t, bZ_f, nr_i, nr_0, nr_1, nr_b, ft_i, ft_b, ft_0, ft_1, zl_0, zl_1, zl_2, zl_3, zl_5, zl_6, zl_7, zl_26, zl_40, zl_44, zl_52, zl_99, zl_100, mF_len, mg_0, mg_1, mg_2, mg_3, mg_4, mg_5, mg_6, mg_7, mg_8, mg_9, mg_10, mg_11, mg_12, mg_13, mg_14, mg_15, mg_16, mg_17, mg_18, mg_19, mg_20, mg_21, mg_22, mg_23, mg_24, mg_25, mg_26, mg_27, mg_28, mg_29, mg_30, mg_31, mg_32, mg_33, mg_34, mg_35, mg_36, mg_37, mg_38, ms_0, ms_1, ms_2, ms_13, ms_14, ms_15, ms_16, ms_21, ms_22, ms_23, ms_24, ms_28, ms_36, ms_37, ms_38, st_at, st_ne, st_st, st_swap, l0, hm, b3, y1, y2, mm, k1, y3, -List.filter_filter, -List.getElem?_map, -List.getD_eq_getElem?_getD]
          · rw [st_ne (by decide)]; exact b2
          · rw [st_ne (by decide)]; exact b4
        · have y3 : ¬ ((fvs [] (flt C)).length : Int) ≤ 26 := by omega
          have y4 := fvs_len (flt C) []
          rw [List.length_nil, Nat.zero_add] at y4
          refine ⟨-7, w', _, R', Mp', fr, hK', k4, k5, hmf, Gx.fin 60 k7 (fun C mm => ?_), Or.inl ⟨rfl, fun C' e => ?_⟩⟩
          · simp (disch := first | (refine c1_id ?_; assumption) | (refine c1_st rfl ?_; repeat (first | assumption | refine c1_st rfl ?_)) | omega) [nx_l, nx_r, nx_n, x_st, x_push, x_bin, x_div, x_un, x_dup, x_pop, x_dup2, x_goto, x_ifeq, x_ifne, x_iflt, x_ifge, x_ifgt, x_ifle, x_iceq, x_icne, x_iclt, x_icge, x_icgt, x_icle, x_ifnull, x_ifnonnull, x_ldi, x_lda, x_sti, x_sta, x_iinc, x_gf, x_pf, x_ald, x_ast, x_aln, x_len, x_cl_, x_cv, x_cs, x_rc, x_r0, x_isT, x_oi, x_rv, x_ri, x_ra, Value.category, t125_0, t125_1, t125_3, t125_5, t125_7, t125_10, t125_11, t125_14, t125_16, t125_17, t125_18, t125_21, t125_24, t125_25, t125_26, t125_27, t125_28, t125_31, t125_32, t125_35, t125_36, t125_37, t125_40, t125_41, t125_44, t125_45, t125_47, t125_49, t125_52, t125_53, t125_55, t125_57, t125_59, t125_62, t125_63, t125_66, t125_68, t125_69, t125_70, t125_71, t125_72, t125_73, t125_75, t125_77, t125_80, t125_82, t125_85, t125_86, t125_88, t125_89, t125_90, t125_93, t125_95, t125_98, t125_100, t125_103, t125_105, t125_108, t125_109, t125_110, t125_113, t125_115, t125_117, t125_118, t125_120, t125_121, t125_122, t125_123, t125_125, t125_126, t125_129, t125_131, t125_132, t125_133, t125_134, t125_135, t125_136, t125_138, t125_139, t125_140, t125_143, t125_144, t125_147, t125_149, t125_151, t125_152, t125_154, t125_155, t125_156, t125_159, t125_160, t125_163, t125_164, t125_166, t125_167, t125_170, t125_172, t125_174, t125_177, t125_178, t125_181, t125_182, t125_185, t125_186, t125_187, t125_190, t125_191, t125_193, t125_196, t125_198, t125_200, t125_203, t125_204, t125_207, t125_208, t125_211, t125_212, t125_215, t125_217, t125_218, t125_220, t125_223, t125_225, t125_226, t125_227, t125_230, t125_231, t125_234, t125_235, t125_238, t125_239, t125_242, t125_243, t125_245, t125_247, t125_250, t125_252, t125_253, t125_255, t125_256, t125_257, t125_259, t125_260, t125_263, t125_265, t125_266, t125_268, t125_271, t125_272, t125_274, t125_277, t125_280, t125_282, t125_284, t125_286, t125_288, t125_291, t125_293, t125_296, t125_298, t125_300, t125_302, t125_304, t125_307, t125_309, t125_312, t125_314, t125_316, t125_317, t125_318, t125_321, t125_322, t125_324, t125_326, t125_327, t125_329, t125_331, t125_334, t125_335, t125_337, t125_339, t125_342, t125_344, t125_346, t125_347, t125_350, t125_352, t125_355, t125_358, t125_359, t125_361, t125_362, t125_363, t125_366, t125_367, t125_369, t125_371, t125_374, t125_377, t125_378, t125_379, t125_382, t125_383, t125_385, t125_387, t125_390, t125_393, t125_394, t125_396, t125_398, t125_401, t125_403, t125_405, t125_408, t125_410, t125_411, t125_412, t125_413, t125_416, t125_417, t125_418, t125_421, t125_422, t125_423, t125_426, t125_427, t125_428, t125_429, t125_430, t125_431, t125_434, t125_436, t125_439, t125_440, t125_443, t125_444, t125_447, t125_448, t125_450, t125_452, t125_454, t125_457, t125_458, t125_459, t125_462, t125_463, t125_465, t125_467, t125_469, t125_471, t125_474, t125_475, t125_478, t125_481, t125_482, t125_485, t125_487, t125_490, t125_491, t125_494, t125_496, t125_499, t125_501, t125_502, t125_503, t125_506, t125_507, t125_510, t125_512, t125_515, t125_517, t125_520, t125_521, lk_s, hp_get, hp_set, uH_at, uH_ne, uH_upd, uH_swap, iZ_add, iZ_sub, iZ_mul, iZ_neg, iZ_lt, iZ_le, iZ_eq, iZ_div, iZ_of, ix_Z, gZ_map, gZ_mapI, gZ_map', le_0, le_s, sZ_map, sZ_len, bZ_0, bZ_inj, bZ_t, bZ_f, nr_i, nr_0, nr_1, nr_b, ft_i, ft_b, ft_0, ft_1, zl_0, zl_1, zl_2, zl_3, zl_5, zl_6, zl_7, zl_26, zl_40, zl_44, zl_52, zl_99, zl_100, mF_len, mg_0, mg_1, mg_2, mg_3, mg_4, mg_5, mg_6, mg_7, mg_8, mg_9, mg_10, mg_11, mg_12, mg_13, mg_14, mg_15, mg_16, mg_17, mg_18, mg_19, mg_20, mg_21, mg_22, mg_23, mg_24, mg_25, mg_26, mg_27, mg_28, mg_29, mg_30, mg_31, mg_32, mg_33, mg_34, mg_35, mg_36, mg_37, mg_38, ms_0, ms_1, ms_2, ms_13, ms_14, ms_15, ms_16, ms_21, ms_22, ms_23, ms_24, ms_28, ms_36, ms_37, ms_38, st_at, st_ne, st_st, st_swap, l0, hm, b3, y1, y2, mm, k1, y3, -List.filter_filter, -List.getElem?_map, -List.getD_eq_getElem?_getD]
          · cases e
            exact fun z => z3 z.2.2
      · have y1 : ¬ (6 : Int) < m 8 := by omega
        have y2 : ¬ m 7 ≤ (40 : Int) := by omega
        refine ⟨-7, w, m, R, Mp, Fr.rf _ _, hK, hM, s2, fun _ _ _ _ _ => rfl, Gx.fin 20 Cs.tt (fun C _ => ?_), Or.inl ⟨rfl, fun C' e => by cases e; exact fun z => z2 z.2.1⟩⟩
        simp (disch := first | (refine c1_id ?_; assumption) | (refine c1_st rfl ?_; repeat (first | assumption | refine c1_st rfl ?_)) | omega) [nx_l, nx_r, nx_n, x_st, x_push, x_bin, x_div, x_un, x_dup, x_pop, x_dup2, x_goto, x_ifeq, x_ifne, x_iflt, x_ifge, x_ifgt, x_ifle, x_iceq, x_icne, x_iclt, x_icge, x_icgt, x_icle, x_ifnull, x_ifnonnull, x_ldi, x_lda, x_sti, x_sta, x_iinc, x_gf, x_pf, x_ald, x_ast, x_aln, x_len, x_cl_, x_cv, x_cs, x_rc, x_r0, x_isT, x_oi, x_rv, x_ri, x_ra, Value.category, t125_0, t125_1, t125_3, t125_5, t125_7, t125_10, t125_11, t125_14, t125_16, t125_17, t125_18, t125_21, t125_24, t125_25, t125_26, t125_27, t125_28, t125_31, t125_32, t125_35, t125_36, t125_37, t125_40, t125_41, t125_44, t125_45, t125_47, t125_49, t125_52, t125_53, t125_55, t125_57, t125_59, t125_62, t125_63, t125_66, t125_68, t125_69, t125_70, t125_71, t125_72, t125_73, t125_75, t125_77, t125_80, t125_82, t125_85, t125_86, t125_88, t125_89, t125_90, t125_93, t125_95, t125_98, t125_100, t125_103, t125_105, t125_108, t125_109, t125_110, t125_113, t125_115, t125_117, t125_118, t125_120, t125_121, t125_122, t125_123, t125_125, t125_126, t125_129, t125_131, t125_132, t125_133, t125_134, t125_135, t125_136, t125_138, t125_139, t125_140, t125_143, t125_144, t125_147, t125_149, t125_151, t125_152, t125_154, t125_155, t125_156, t125_159, t125_160, t125_163, t125_164, t125_166, t125_167, t125_170, t125_172, t125_174, t125_177, t125_178, t125_181, t125_182, t125_185, t125_186, t125_187, t125_190, t125_191, t125_193, t125_196, t125_198, t125_200, t125_203, t125_204, t125_207, t125_208, t125_211, t125_212, t125_215, t125_217, t125_218, t125_220, t125_223, t125_225, t125_226, t125_227, t125_230, t125_231, t125_234, t125_235, t125_238, t125_239, t125_242, t125_243, t125_245, t125_247, t125_250, t125_252, t125_253, t125_255, t125_256, t125_257, t125_259, t125_260, t125_263, t125_265, t125_266, t125_268, t125_271, t125_272, t125_274, t125_277, t125_280, t125_282, t125_284, t125_286, t125_288, t125_291, t125_293, t125_296, t125_298, t125_300, t125_302, t125_304, t125_307, t125_309, t125_312, t125_314, t125_316, t125_317, t125_318, t125_321, t125_322, t125_324, t125_326, t125_327, t125_329, t125_331, t125_334, t125_335, t125_337, t125_339, t125_342, t125_344, t125_346, t125_347, t125_350, t125_352, t125_355, t125_358, t125_359, t125_361, t125_362, t125_363, t125_366, t125_367, t125_369, t125_371, t125_374, t125_377, t125_378, t125_379, t125_382, t125_383, t125_385, t125_387, t125_390, t125_393, t125_394, t125_396, t125_398, t125_401, t125_403, t125_405, t125_408, t125_410, t125_411, t125_412, t125_413, t125_416, t125_417, t125_418, t125_421, t125_422, t125_423, t125_426, t125_427, t125_428, t125_429, t125_430, t125_431, t125_434, t125_436, t125_439, t125_440, t125_443, t125_444, t125_447, t125_448, t125_450, t125_452, t125_454, t125_457, t125_458, t125_459, t125_462, t125_463, t125_465, t125_467, t125_469, t125_471, t125_474, t125_475, t125_478, t125_481, t125_482, t125_485, t125_487, t125_490, t125_491, t125_494, t125_496, t125_499, t125_501, t125_502, t125_503, t125_506, t125_507, t125_510, t125_512, t125_515, t125_517, t125_520, t125_521, lk_s, hp_get, hp_set, uH_at, uH_ne, uH_upd, uH_swap, iZ_add, iZ_sub, iZ_mul, iZ_neg, iZ_lt, iZ_le, iZ_eq, iZ_div, iZ_of, ix_Z, gZ_map, gZ_mapI, gZ_map', le_0, le_s, sZ_map, sZ_len, bZ_0, bZ_inj, bZ_t, bZ_f, nr_i, nr_0, nr_1, nr_b, ft_i, ft_b, ft_0, ft_1, zl_0, zl_1, zl_2, zl_3, zl_5, zl_6, zl_7, zl_26, zl_40, zl_44, zl_52, zl_99, zl_100, mF_len, mg_0, mg_1, mg_2, mg_3, mg_4, mg_5, mg_6, mg_7, mg_8, mg_9, mg_10, mg_11, mg_12, mg_13, mg_14, mg_15, mg_16, mg_17, mg_18, mg_19, mg_20, mg_21, mg_22, mg_23, mg_24, mg_25, mg_26, mg_27, mg_28, mg_29, mg_30, mg_31, mg_32, mg_33, mg_34, mg_35, mg_36, mg_37, mg_38, ms_0, ms_1, ms_2, ms_13, ms_14, ms_15, ms_16, ms_21, ms_22, ms_23, ms_24, ms_28, ms_36, ms_37, ms_38, st_at, st_ne, st_st, st_swap, l0, hm, b3, y1, y2, -List.filter_filter, -List.getElem?_map, -List.getD_eq_getElem?_getD]
    · have y1 : (6 : Int) < m 8 := by omega
      refine ⟨-7, w, m, R, Mp, Fr.rf _ _, hK, hM, s2, fun _ _ _ _ _ => rfl, Gx.fin 20 Cs.tt (fun C _ => ?_), Or.inl ⟨rfl, fun C' e => by cases e; exact fun z => z1 z.1⟩⟩
      simp (disch := first | (refine c1_id ?_; assumption) | (refine c1_st rfl ?_; repeat (first | assumption | refine c1_st rfl ?_)) | omega) [nx_l, nx_r, nx_n, x_st, x_push, x_bin, x_div, x_un, x_dup, x_pop, x_dup2, x_goto, x_ifeq, x_ifne, x_iflt, x_ifge, x_ifgt, x_ifle, x_iceq, x_icne, x_iclt, x_icge, x_icgt, x_icle, x_ifnull, x_ifnonnull, x_ldi, x_lda, x_sti, x_sta, x_iinc, x_gf, x_pf, x_ald, x_ast, x_aln, x_len, x_cl_, x_cv, x_cs, x_rc, x_r0, x_isT, x_oi, x_rv, x_ri, x_ra, Value.category, t125_0, t125_1, t125_3, t125_5, t125_7, t125_10, t125_11, t125_14, t125_16, t125_17, t125_18, t125_21, t125_24, t125_25, t125_26, t125_27, t125_28, t125_31, t125_32, t125_35, t125_36, t125_37, t125_40, t125_41, t125_44, t125_45, t125_47, t125_49, t125_52, t125_53, t125_55, t125_57, t125_59, t125_62, t125_63, t125_66, t125_68, t125_69, t125_70, t125_71, t125_72, t125_73, t125_75, t125_77, t125_80, t125_82, t125_85, t125_86, t125_88, t125_89, t125_90, t125_93, t125_95, t125_98, t125_100, t125_103, t125_105, t125_108, t125_109, t125_110, t125_113, t125_115, t125_117, t125_118, t125_120, t125_121, t125_122, t125_123, t125_125, t125_126, t125_129, t125_131, t125_132, t125_133, t125_134, t125_135, t125_136, t125_138, t125_139, t125_140, t125_143, t125_144, t125_147, t125_149, t125_151, t125_152, t125_154, t125_155, t125_156, t125_159, t125_160, t125_163, t125_164, t125_166, t125_167, t125_170, t125_172, t125_174, t125_177, t125_178, t125_181, t125_182, t125_185, t125_186, t125_187, t125_190, t125_191, t125_193, t125_196, t125_198, t125_200, t125_203, t125_204, t125_207, t125_208, t125_211, t125_212, t125_215, t125_217, t125_218, t125_220, t125_223, t125_225, t125_226, t125_227, t125_230, t125_231, t125_234, t125_235, t125_238, t125_239, t125_242, t125_243, t125_245, t125_247, t125_250, t125_252, t125_253, t125_255, t125_256, t125_257, t125_259, t125_260, t125_263, t125_265, t125_266, t125_268, t125_271, t125_272, t125_274, t125_277, t125_280, t125_282, t125_284, t125_286, t125_288, t125_291, t125_293, t125_296, t125_298, t125_300, t125_302, t125_304, t125_307, t125_309, t125_312, t125_314, t125_316, t125_317, t125_318, t125_321, t125_322, t125_324, t125_326, t125_327, t125_329, t125_331, t125_334, t125_335, t125_337, t125_339, t125_342, t125_344, t125_346, t125_347, t125_350, t125_352, t125_355, t125_358, t125_359, t125_361, t125_362, t125_363, t125_366, t125_367, t125_369, t125_371, t125_374, t125_377, t125_378, t125_379, t125_382, t125_383, t125_385, t125_387, t125_390, t125_393, t125_394, t125_396, t125_398, t125_401, t125_403, t125_405, t125_408, t125_410, t125_411, t125_412, t125_413, t125_416, t125_417, t125_418, t125_421, t125_422, t125_423, t125_426, t125_427, t125_428, t125_429, t125_430, t125_431, t125_434, t125_436, t125_439, t125_440, t125_443, t125_444, t125_447, t125_448, t125_450, t125_452, t125_454, t125_457, t125_458, t125_459, t125_462, t125_463, t125_465, t125_467, t125_469, t125_471, t125_474, t125_475, t125_478, t125_481, t125_482, t125_485, t125_487, t125_490, t125_491, t125_494, t125_496, t125_499, t125_501, t125_502, t125_503, t125_506, t125_507, t125_510, t125_512, t125_515, t125_517, t125_520, t125_521, lk_s, hp_get, hp_set, uH_at, uH_ne, uH_upd, uH_swap, iZ_add, iZ_sub, iZ_mul, iZ_neg, iZ_lt, iZ_le, iZ_eq, iZ_div, iZ_of, ix_Z, gZ_map, gZ_mapI, gZ_map', le_0, le_s, sZ_map, sZ_len, bZ_0, bZ_inj, bZ_t, bZ_f, nr_i, nr_0, nr_1, nr_b, ft_i, ft_b, ft_0, ft_1, zl_0, zl_1, zl_2, zl_3, zl_5, zl_6, zl_7, zl_26, zl_40, zl_44, zl_52, zl_99, zl_100, mF_len, mg_0, mg_1, mg_2, mg_3, mg_4, mg_5, mg_6, mg_7, mg_8, mg_9, mg_10, mg_11, mg_12, mg_13, mg_14, mg_15, mg_16, mg_17, mg_18, mg_19, mg_20, mg_21, mg_22, mg_23, mg_24, mg_25, mg_26, mg_27, mg_28, mg_29, mg_30, mg_31, mg_32, mg_33, mg_34, mg_35, mg_36, mg_37, mg_38, ms_0, ms_1, ms_2, ms_13, ms_14, ms_15, ms_16, ms_21, ms_22, ms_23, ms_24, ms_28, ms_36, ms_37, ms_38, st_at, st_ne, st_st, st_swap, l0, hm, b3, y1, -List.filter_filter, -List.getElem?_map, -List.getD_eq_getElem?_getD]
def ux (x : Nat → List Int) (j : Nat) (l : List Int) : Nat → List Int := fun i => if i = j then l else x i
theorem ux_at (x : Nat → List Int) (j : Nat) (l : List Int) : ux x j l j = l := if_pos rfl
theorem ux_ne {x : Nat → List Int} {i j : Nat} {l : List Int} (h : i ≠ j) : ux x j l i = x i := if_neg h
theorem RO.set (h : RO w m x) {j : Nat} {l : List Int} (j0 : 28 ≤ j) (hl : l.length = lnR j) : RO (uH w j (cI (kdR j) l)) m (ux x j l) := by
  by_cases hj : 28 ≤ j ∧ j ≤ 51
  · refine ⟨by rw [uH_ne (by omega)]; exact h.1, fun q q0 q1 => ?_⟩
    by_cases e : q = j
    · subst e
      rw [uH_at, ux_at]
      exact ⟨rfl, hl⟩
    · rw [uH_ne e, ux_ne e]
      exact h.2 q q0 q1
  · refine ⟨by rw [uH_ne (by omega)]; exact h.1, fun q q0 q1 => ?_⟩
    rw [uH_ne (by omega), ux_ne (by omega)]
    exact h.2 q q0 q1
end LY
