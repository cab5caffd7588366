/-! the reference: whether a variable comes in a term with all that is bound -/
theorem f112_0 : x_fetch q_k112 0 = x_st (x_push 1 (.int (1))) := rfl
theorem t112_0 (C : xF) (s n : Nat) (z : xS) : x_to q_k112 C s (n + 1) 0 z = x_nx q_k112 C s n ((x_st (x_push 1 (.int (1)))) C z) := x_to_at f112_0 C s n z
theorem f112_1 : x_fetch q_k112 1 = x_sti 2 3 := rfl
theorem t112_1 (C : xF) (s n : Nat) (z : xS) : x_to q_k112 C s (n + 1) 1 z = x_nx q_k112 C s n ((x_sti 2 3) C z) := x_to_at f112_1 C s n z
theorem f112_2 : x_fetch q_k112 2 = x_lda 3 0 := rfl
theorem t112_2 (C : xF) (s n : Nat) (z : xS) : x_to q_k112 C s (n + 1) 2 z = x_nx q_k112 C s n ((x_lda 3 0) C z) := x_to_at f112_2 C s n z
theorem f112_3 : x_fetch q_k112 3 = x_gf 6 8 33 := rfl
theorem t112_3 (C : xF) (s n : Nat) (z : xS) : x_to q_k112 C s (n + 1) 3 z = x_nx q_k112 C s n ((x_gf 6 8 33) C z) := x_to_at f112_3 C s n z
theorem f112_6 : x_fetch q_k112 6 = x_st (x_push 7 (.int (0))) := rfl
theorem t112_6 (C : xF) (s n : Nat) (z : xS) : x_to q_k112 C s (n + 1) 6 z = x_nx q_k112 C s n ((x_st (x_push 7 (.int (0)))) C z) := x_to_at f112_6 C s n z
theorem f112_7 : x_fetch q_k112 7 = x_ldi 8 2 := rfl
theorem t112_7 (C : xF) (s n : Nat) (z : xS) : x_to q_k112 C s (n + 1) 7 z = x_nx q_k112 C s n ((x_ldi 8 2) C z) := x_to_at f112_7 C s n z
theorem f112_8 : x_fetch q_k112 8 = x_ast 9 0 (fun x => x) := rfl
theorem t112_8 (C : xF) (s n : Nat) (z : xS) : x_to q_k112 C s (n + 1) 8 z = x_nx q_k112 C s n ((x_ast 9 0 (fun x => x)) C z) := x_to_at f112_8 C s n z
theorem f112_9 : x_fetch q_k112 9 = x_lda 10 0 := rfl
theorem t112_9 (C : xF) (s n : Nat) (z : xS) : x_to q_k112 C s (n + 1) 9 z = x_nx q_k112 C s n ((x_lda 10 0) C z) := x_to_at f112_9 C s n z
theorem f112_10 : x_fetch q_k112 10 = x_gf 13 8 34 := rfl
theorem t112_10 (C : xF) (s n : Nat) (z : xS) : x_to q_k112 C s (n + 1) 10 z = x_nx q_k112 C s n ((x_gf 13 8 34) C z) := x_to_at f112_10 C s n z
theorem f112_13 : x_fetch q_k112 13 = x_st (x_push 14 (.int (0))) := rfl
theorem t112_13 (C : xF) (s n : Nat) (z : xS) : x_to q_k112 C s (n + 1) 13 z = x_nx q_k112 C s n ((x_st (x_push 14 (.int (0)))) C z) := x_to_at f112_13 C s n z
theorem f112_14 : x_fetch q_k112 14 = x_lda 15 0 := rfl
theorem t112_14 (C : xF) (s n : Nat) (z : xS) : x_to q_k112 C s (n + 1) 14 z = x_nx q_k112 C s n ((x_lda 15 0) C z) := x_to_at f112_14 C s n z
theorem f112_15 : x_fetch q_k112 15 = x_ldi 16 2 := rfl
theorem t112_15 (C : xF) (s n : Nat) (z : xS) : x_to q_k112 C s (n + 1) 15 z = x_nx q_k112 C s n ((x_ldi 16 2) C z) := x_to_at f112_15 C s n z
theorem f112_16 : x_fetch q_k112 16 = x_cv 19 109 2 8 := rfl
theorem t112_16 (C : xF) (s n : Nat) (z : xS) : x_to q_k112 C s (n + 1) 16 z = x_nx q_k112 C s n ((x_cv 19 109 2 8) C z) := x_to_at f112_16 C s n z
theorem f112_19 : x_fetch q_k112 19 = x_ast 20 0 (fun x => x) := rfl
theorem t112_19 (C : xF) (s n : Nat) (z : xS) : x_to q_k112 C s (n + 1) 19 z = x_nx q_k112 C s n ((x_ast 20 0 (fun x => x)) C z) := x_to_at f112_19 C s n z
theorem f112_20 : x_fetch q_k112 20 = x_ldi 21 3 := rfl
theorem t112_20 (C : xF) (s n : Nat) (z : xS) : x_to q_k112 C s (n + 1) 20 z = x_nx q_k112 C s n ((x_ldi 21 3) C z) := x_to_at f112_20 C s n z
theorem f112_21 : x_fetch q_k112 21 = x_st (x_ifle 135 24) := rfl
theorem t112_21 (C : xF) (s n : Nat) (z : xS) : x_to q_k112 C s (n + 1) 21 z = x_nx q_k112 C s n ((x_st (x_ifle 135 24)) C z) := x_to_at f112_21 C s n z
theorem f112_24 : x_fetch q_k112 24 = x_lda 25 0 := rfl
theorem t112_24 (C : xF) (s n : Nat) (z : xS) : x_to q_k112 C s (n + 1) 24 z = x_nx q_k112 C s n ((x_lda 25 0) C z) := x_to_at f112_24 C s n z
theorem f112_25 : x_fetch q_k112 25 = x_gf 28 8 33 := rfl
theorem t112_25 (C : xF) (s n : Nat) (z : xS) : x_to q_k112 C s (n + 1) 25 z = x_nx q_k112 C s n ((x_gf 28 8 33) C z) := x_to_at f112_25 C s n z
theorem f112_28 : x_fetch q_k112 28 = x_ldi 29 3 := rfl
theorem t112_28 (C : xF) (s n : Nat) (z : xS) : x_to q_k112 C s (n + 1) 28 z = x_nx q_k112 C s n ((x_ldi 29 3) C z) := x_to_at f112_28 C s n z
theorem f112_29 : x_fetch q_k112 29 = x_st (x_push 30 (.int (1))) := rfl
theorem t112_29 (C : xF) (s n : Nat) (z : xS) : x_to q_k112 C s (n + 1) 29 z = x_nx q_k112 C s n ((x_st (x_push 30 (.int (1)))) C z) := x_to_at f112_29 C s n z
theorem f112_30 : x_fetch q_k112 30 = x_st (x_bin 31 (fun a b => a - b)) := rfl
theorem t112_30 (C : xF) (s n : Nat) (z : xS) : x_to q_k112 C s (n + 1) 30 z = x_nx q_k112 C s n ((x_st (x_bin 31 (fun a b => a - b))) C z) := x_to_at f112_30 C s n z
theorem f112_31 : x_fetch q_k112 31 = x_ald 32 0 := rfl
theorem t112_31 (C : xF) (s n : Nat) (z : xS) : x_to q_k112 C s (n + 1) 31 z = x_nx q_k112 C s n ((x_ald 32 0) C z) := x_to_at f112_31 C s n z
theorem f112_32 : x_fetch q_k112 32 = x_sti 34 4 := rfl
theorem t112_32 (C : xF) (s n : Nat) (z : xS) : x_to q_k112 C s (n + 1) 32 z = x_nx q_k112 C s n ((x_sti 34 4) C z) := x_to_at f112_32 C s n z
theorem f112_34 : x_fetch q_k112 34 = x_ldi 36 4 := rfl
theorem t112_34 (C : xF) (s n : Nat) (z : xS) : x_to q_k112 C s (n + 1) 34 z = x_nx q_k112 C s n ((x_ldi 36 4) C z) := x_to_at f112_34 C s n z
theorem f112_36 : x_fetch q_k112 36 = x_lda 37 0 := rfl
theorem t112_36 (C : xF) (s n : Nat) (z : xS) : x_to q_k112 C s (n + 1) 36 z = x_nx q_k112 C s n ((x_lda 37 0) C z) := x_to_at f112_36 C s n z
theorem f112_37 : x_fetch q_k112 37 = x_gf 40 8 34 := rfl
theorem t112_37 (C : xF) (s n : Nat) (z : xS) : x_to q_k112 C s (n + 1) 37 z = x_nx q_k112 C s n ((x_gf 40 8 34) C z) := x_to_at f112_37 C s n z
theorem f112_40 : x_fetch q_k112 40 = x_ldi 41 3 := rfl
theorem t112_40 (C : xF) (s n : Nat) (z : xS) : x_to q_k112 C s (n + 1) 40 z = x_nx q_k112 C s n ((x_ldi 41 3) C z) := x_to_at f112_40 C s n z
theorem f112_41 : x_fetch q_k112 41 = x_st (x_push 42 (.int (1))) := rfl
theorem t112_41 (C : xF) (s n : Nat) (z : xS) : x_to q_k112 C s (n + 1) 41 z = x_nx q_k112 C s n ((x_st (x_push 42 (.int (1)))) C z) := x_to_at f112_41 C s n z
theorem f112_42 : x_fetch q_k112 42 = x_st (x_bin 43 (fun a b => a - b)) := rfl
theorem t112_42 (C : xF) (s n : Nat) (z : xS) : x_to q_k112 C s (n + 1) 42 z = x_nx q_k112 C s n ((x_st (x_bin 43 (fun a b => a - b))) C z) := x_to_at f112_42 C s n z
theorem f112_43 : x_fetch q_k112 43 = x_ald 44 0 := rfl
theorem t112_43 (C : xF) (s n : Nat) (z : xS) : x_to q_k112 C s (n + 1) 43 z = x_nx q_k112 C s n ((x_ald 44 0) C z) := x_to_at f112_43 C s n z
theorem f112_44 : x_fetch q_k112 44 = x_st (x_icne 53 47) := rfl
theorem t112_44 (C : xF) (s n : Nat) (z : xS) : x_to q_k112 C s (n + 1) 44 z = x_nx q_k112 C s n ((x_st (x_icne 53 47)) C z) := x_to_at f112_44 C s n z
theorem f112_47 : x_fetch q_k112 47 = x_iinc 50 3 (-1) := rfl
theorem t112_47 (C : xF) (s n : Nat) (z : xS) : x_to q_k112 C s (n + 1) 47 z = x_nx q_k112 C s n ((x_iinc 50 3 (-1)) C z) := x_to_at f112_47 C s n z
theorem f112_50 : x_fetch q_k112 50 = x_st (x_goto 132) := rfl
theorem t112_50 (C : xF) (s n : Nat) (z : xS) : x_to q_k112 C s (n + 1) 50 z = x_nx q_k112 C s n ((x_st (x_goto 132)) C z) := x_to_at f112_50 C s n z
theorem f112_53 : x_fetch q_k112 53 = x_lda 54 0 := rfl
theorem t112_53 (C : xF) (s n : Nat) (z : xS) : x_to q_k112 C s (n + 1) 53 z = x_nx q_k112 C s n ((x_lda 54 0) C z) := x_to_at f112_53 C s n z
theorem f112_54 : x_fetch q_k112 54 = x_gf 57 8 33 := rfl
theorem t112_54 (C : xF) (s n : Nat) (z : xS) : x_to q_k112 C s (n + 1) 54 z = x_nx q_k112 C s n ((x_gf 57 8 33) C z) := x_to_at f112_54 C s n z
theorem f112_57 : x_fetch q_k112 57 = x_ldi 58 3 := rfl
theorem t112_57 (C : xF) (s n : Nat) (z : xS) : x_to q_k112 C s (n + 1) 57 z = x_nx q_k112 C s n ((x_ldi 58 3) C z) := x_to_at f112_57 C s n z
theorem f112_58 : x_fetch q_k112 58 = x_st (x_push 59 (.int (1))) := rfl
theorem t112_58 (C : xF) (s n : Nat) (z : xS) : x_to q_k112 C s (n + 1) 58 z = x_nx q_k112 C s n ((x_st (x_push 59 (.int (1)))) C z) := x_to_at f112_58 C s n z
theorem f112_59 : x_fetch q_k112 59 = x_st (x_bin 60 (fun a b => a - b)) := rfl
theorem t112_59 (C : xF) (s n : Nat) (z : xS) : x_to q_k112 C s (n + 1) 59 z = x_nx q_k112 C s n ((x_st (x_bin 60 (fun a b => a - b))) C z) := x_to_at f112_59 C s n z
theorem f112_60 : x_fetch q_k112 60 = x_st (x_dup2 61) := rfl
theorem t112_60 (C : xF) (s n : Nat) (z : xS) : x_to q_k112 C s (n + 1) 60 z = x_nx q_k112 C s n ((x_st (x_dup2 61)) C z) := x_to_at f112_60 C s n z
theorem f112_61 : x_fetch q_k112 61 = x_ald 62 0 := rfl
theorem t112_61 (C : xF) (s n : Nat) (z : xS) : x_to q_k112 C s (n + 1) 61 z = x_nx q_k112 C s n ((x_ald 62 0) C z) := x_to_at f112_61 C s n z
theorem f112_62 : x_fetch q_k112 62 = x_st (x_push 63 (.int (1))) := rfl
theorem t112_62 (C : xF) (s n : Nat) (z : xS) : x_to q_k112 C s (n + 1) 62 z = x_nx q_k112 C s n ((x_st (x_push 63 (.int (1)))) C z) := x_to_at f112_62 C s n z
theorem f112_63 : x_fetch q_k112 63 = x_st (x_bin 64 (fun a b => a + b)) := rfl
theorem t112_63 (C : xF) (s n : Nat) (z : xS) : x_to q_k112 C s (n + 1) 63 z = x_nx q_k112 C s n ((x_st (x_bin 64 (fun a b => a + b))) C z) := x_to_at f112_63 C s n z
theorem f112_64 : x_fetch q_k112 64 = x_ast 65 0 (fun x => x) := rfl
theorem t112_64 (C : xF) (s n : Nat) (z : xS) : x_to q_k112 C s (n + 1) 64 z = x_nx q_k112 C s n ((x_ast 65 0 (fun x => x)) C z) := x_to_at f112_64 C s n z
theorem f112_65 : x_fetch q_k112 65 = x_lda 66 0 := rfl
theorem t112_65 (C : xF) (s n : Nat) (z : xS) : x_to q_k112 C s (n + 1) 65 z = x_nx q_k112 C s n ((x_lda 66 0) C z) := x_to_at f112_65 C s n z
theorem f112_66 : x_fetch q_k112 66 = x_gf 69 8 29 := rfl
theorem t112_66 (C : xF) (s n : Nat) (z : xS) : x_to q_k112 C s (n + 1) 66 z = x_nx q_k112 C s n ((x_gf 69 8 29) C z) := x_to_at f112_66 C s n z
theorem f112_69 : x_fetch q_k112 69 = x_ldi 71 4 := rfl
theorem t112_69 (C : xF) (s n : Nat) (z : xS) : x_to q_k112 C s (n + 1) 69 z = x_nx q_k112 C s n ((x_ldi 71 4) C z) := x_to_at f112_69 C s n z
theorem f112_71 : x_fetch q_k112 71 = x_ald 72 0 := rfl
theorem t112_71 (C : xF) (s n : Nat) (z : xS) : x_to q_k112 C s (n + 1) 71 z = x_nx q_k112 C s n ((x_ald 72 0) C z) := x_to_at f112_71 C s n z
theorem f112_72 : x_fetch q_k112 72 = x_sti 74 5 := rfl
theorem t112_72 (C : xF) (s n : Nat) (z : xS) : x_to q_k112 C s (n + 1) 72 z = x_nx q_k112 C s n ((x_sti 74 5) C z) := x_to_at f112_72 C s n z
theorem f112_74 : x_fetch q_k112 74 = x_ldi 76 5 := rfl
theorem t112_74 (C : xF) (s n : Nat) (z : xS) : x_to q_k112 C s (n + 1) 74 z = x_nx q_k112 C s n ((x_ldi 76 5) C z) := x_to_at f112_74 C s n z
theorem f112_76 : x_fetch q_k112 76 = x_ldi 77 1 := rfl
theorem t112_76 (C : xF) (s n : Nat) (z : xS) : x_to q_k112 C s (n + 1) 76 z = x_nx q_k112 C s n ((x_ldi 77 1) C z) := x_to_at f112_76 C s n z
theorem f112_77 : x_fetch q_k112 77 = x_st (x_icne 82 80) := rfl
theorem t112_77 (C : xF) (s n : Nat) (z : xS) : x_to q_k112 C s (n + 1) 77 z = x_nx q_k112 C s n ((x_st (x_icne 82 80)) C z) := x_to_at f112_77 C s n z
theorem f112_80 : x_fetch q_k112 80 = x_st (x_push 81 (.int (1))) := rfl
theorem t112_80 (C : xF) (s n : Nat) (z : xS) : x_to q_k112 C s (n + 1) 80 z = x_nx q_k112 C s n ((x_st (x_push 81 (.int (1)))) C z) := x_to_at f112_80 C s n z
theorem f112_81 : x_fetch q_k112 81 = x_ri (.boolean) := rfl
theorem t112_81 (C : xF) (s n : Nat) (z : xS) : x_to q_k112 C s (n + 1) 81 z = x_nx q_k112 C s n ((x_ri (.boolean)) C z) := x_to_at f112_81 C s n z
theorem f112_82 : x_fetch q_k112 82 = x_ldi 84 5 := rfl
theorem t112_82 (C : xF) (s n : Nat) (z : xS) : x_to q_k112 C s (n + 1) 82 z = x_nx q_k112 C s n ((x_ldi 84 5) C z) := x_to_at f112_82 C s n z
theorem f112_84 : x_fetch q_k112 84 = x_st (x_push 86 (.int (99))) := rfl
theorem t112_84 (C : xF) (s n : Nat) (z : xS) : x_to q_k112 C s (n + 1) 84 z = x_nx q_k112 C s n ((x_st (x_push 86 (.int (99)))) C z) := x_to_at f112_84 C s n z
theorem f112_86 : x_fetch q_k112 86 = x_st (x_icge 132 89) := rfl
theorem t112_86 (C : xF) (s n : Nat) (z : xS) : x_to q_k112 C s (n + 1) 86 z = x_nx q_k112 C s n ((x_st (x_icge 132 89)) C z) := x_to_at f112_86 C s n z
theorem f112_89 : x_fetch q_k112 89 = x_lda 90 0 := rfl
theorem t112_89 (C : xF) (s n : Nat) (z : xS) : x_to q_k112 C s (n + 1) 89 z = x_nx q_k112 C s n ((x_lda 90 0) C z) := x_to_at f112_89 C s n z
theorem f112_90 : x_fetch q_k112 90 = x_gf 93 8 30 := rfl
theorem t112_90 (C : xF) (s n : Nat) (z : xS) : x_to q_k112 C s (n + 1) 90 z = x_nx q_k112 C s n ((x_gf 93 8 30) C z) := x_to_at f112_90 C s n z
theorem f112_93 : x_fetch q_k112 93 = x_ldi 95 5 := rfl
theorem t112_93 (C : xF) (s n : Nat) (z : xS) : x_to q_k112 C s (n + 1) 93 z = x_nx q_k112 C s n ((x_ldi 95 5) C z) := x_to_at f112_93 C s n z
theorem f112_95 : x_fetch q_k112 95 = x_ald 96 0 := rfl
theorem t112_95 (C : xF) (s n : Nat) (z : xS) : x_to q_k112 C s (n + 1) 95 z = x_nx q_k112 C s n ((x_ald 96 0) C z) := x_to_at f112_95 C s n z
theorem f112_96 : x_fetch q_k112 96 = x_st (x_iflt 132 99) := rfl
theorem t112_96 (C : xF) (s n : Nat) (z : xS) : x_to q_k112 C s (n + 1) 96 z = x_nx q_k112 C s n ((x_st (x_iflt 132 99)) C z) := x_to_at f112_96 C s n z
theorem f112_99 : x_fetch q_k112 99 = x_lda 100 0 := rfl
theorem t112_99 (C : xF) (s n : Nat) (z : xS) : x_to q_k112 C s (n + 1) 99 z = x_nx q_k112 C s n ((x_lda 100 0) C z) := x_to_at f112_99 C s n z
theorem f112_100 : x_fetch q_k112 100 = x_gf 103 8 33 := rfl
theorem t112_100 (C : xF) (s n : Nat) (z : xS) : x_to q_k112 C s (n + 1) 100 z = x_nx q_k112 C s n ((x_gf 103 8 33) C z) := x_to_at f112_100 C s n z
theorem f112_103 : x_fetch q_k112 103 = x_ldi 104 3 := rfl
theorem t112_103 (C : xF) (s n : Nat) (z : xS) : x_to q_k112 C s (n + 1) 103 z = x_nx q_k112 C s n ((x_ldi 104 3) C z) := x_to_at f112_103 C s n z
theorem f112_104 : x_fetch q_k112 104 = x_lda 105 0 := rfl
theorem t112_104 (C : xF) (s n : Nat) (z : xS) : x_to q_k112 C s (n + 1) 104 z = x_nx q_k112 C s n ((x_lda 105 0) C z) := x_to_at f112_104 C s n z
theorem f112_105 : x_fetch q_k112 105 = x_gf 108 8 30 := rfl
theorem t112_105 (C : xF) (s n : Nat) (z : xS) : x_to q_k112 C s (n + 1) 105 z = x_nx q_k112 C s n ((x_gf 108 8 30) C z) := x_to_at f112_105 C s n z
theorem f112_108 : x_fetch q_k112 108 = x_ldi 110 5 := rfl
theorem t112_108 (C : xF) (s n : Nat) (z : xS) : x_to q_k112 C s (n + 1) 108 z = x_nx q_k112 C s n ((x_ldi 110 5) C z) := x_to_at f112_108 C s n z
theorem f112_110 : x_fetch q_k112 110 = x_ald 111 0 := rfl
theorem t112_110 (C : xF) (s n : Nat) (z : xS) : x_to q_k112 C s (n + 1) 110 z = x_nx q_k112 C s n ((x_ald 111 0) C z) := x_to_at f112_110 C s n z
theorem f112_111 : x_fetch q_k112 111 = x_ast 112 0 (fun x => x) := rfl
theorem t112_111 (C : xF) (s n : Nat) (z : xS) : x_to q_k112 C s (n + 1) 111 z = x_nx q_k112 C s n ((x_ast 112 0 (fun x => x)) C z) := x_to_at f112_111 C s n z
theorem f112_112 : x_fetch q_k112 112 = x_lda 113 0 := rfl
theorem t112_112 (C : xF) (s n : Nat) (z : xS) : x_to q_k112 C s (n + 1) 112 z = x_nx q_k112 C s n ((x_lda 113 0) C z) := x_to_at f112_112 C s n z
theorem f112_113 : x_fetch q_k112 113 = x_gf 116 8 34 := rfl
theorem t112_113 (C : xF) (s n : Nat) (z : xS) : x_to q_k112 C s (n + 1) 113 z = x_nx q_k112 C s n ((x_gf 116 8 34) C z) := x_to_at f112_113 C s n z
theorem f112_116 : x_fetch q_k112 116 = x_ldi 117 3 := rfl
theorem t112_116 (C : xF) (s n : Nat) (z : xS) : x_to q_k112 C s (n + 1) 116 z = x_nx q_k112 C s n ((x_ldi 117 3) C z) := x_to_at f112_116 C s n z
theorem f112_117 : x_fetch q_k112 117 = x_lda 118 0 := rfl
theorem t112_117 (C : xF) (s n : Nat) (z : xS) : x_to q_k112 C s (n + 1) 117 z = x_nx q_k112 C s n ((x_lda 118 0) C z) := x_to_at f112_117 C s n z
theorem f112_118 : x_fetch q_k112 118 = x_lda 119 0 := rfl
theorem t112_118 (C : xF) (s n : Nat) (z : xS) : x_to q_k112 C s (n + 1) 118 z = x_nx q_k112 C s n ((x_lda 119 0) C z) := x_to_at f112_118 C s n z
theorem f112_119 : x_fetch q_k112 119 = x_gf 122 8 30 := rfl
theorem t112_119 (C : xF) (s n : Nat) (z : xS) : x_to q_k112 C s (n + 1) 119 z = x_nx q_k112 C s n ((x_gf 122 8 30) C z) := x_to_at f112_119 C s n z
theorem f112_122 : x_fetch q_k112 122 = x_ldi 124 5 := rfl
theorem t112_122 (C : xF) (s n : Nat) (z : xS) : x_to q_k112 C s (n + 1) 122 z = x_nx q_k112 C s n ((x_ldi 124 5) C z) := x_to_at f112_122 C s n z
theorem f112_124 : x_fetch q_k112 124 = x_ald 125 0 := rfl
theorem t112_124 (C : xF) (s n : Nat) (z : xS) : x_to q_k112 C s (n + 1) 124 z = x_nx q_k112 C s n ((x_ald 125 0) C z) := x_to_at f112_124 C s n z
theorem f112_125 : x_fetch q_k112 125 = x_cv 128 109 2 8 := rfl
theorem t112_125 (C : xF) (s n : Nat) (z : xS) : x_to q_k112 C s (n + 1) 125 z = x_nx q_k112 C s n ((x_cv 128 109 2 8) C z) := x_to_at f112_125 C s n z
theorem f112_128 : x_fetch q_k112 128 = x_ast 129 0 (fun x => x) := rfl
theorem t112_128 (C : xF) (s n : Nat) (z : xS) : x_to q_k112 C s (n + 1) 128 z = x_nx q_k112 C s n ((x_ast 129 0 (fun x => x)) C z) := x_to_at f112_128 C s n z
theorem f112_129 : x_fetch q_k112 129 = x_iinc 132 3 (1) := rfl
theorem t112_129 (C : xF) (s n : Nat) (z : xS) : x_to q_k112 C s (n + 1) 129 z = x_nx q_k112 C s n ((x_iinc 132 3 (1)) C z) := x_to_at f112_129 C s n z
theorem f112_132 : x_fetch q_k112 132 = x_st (x_goto 20) := rfl
theorem t112_132 (C : xF) (s n : Nat) (z : xS) : x_to q_k112 C s (n + 1) 132 z = x_nx q_k112 C s n ((x_st (x_goto 20)) C z) := x_to_at f112_132 C s n z
theorem f112_135 : x_fetch q_k112 135 = x_st (x_push 136 (.int (0))) := rfl
theorem t112_135 (C : xF) (s n : Nat) (z : xS) : x_to q_k112 C s (n + 1) 135 z = x_nx q_k112 C s n ((x_st (x_push 136 (.int (0)))) C z) := x_to_at f112_135 C s n z
theorem f112_136 : x_fetch q_k112 136 = x_ri (.boolean) := rfl
theorem t112_136 (C : xF) (s n : Nat) (z : xS) : x_to q_k112 C s (n + 1) 136 z = x_nx q_k112 C s n ((x_ri (.boolean)) C z) := x_to_at f112_136 C s n z
theorem frT_pop {P : List Int} {ρ : Int → List Int} {St En : List Int} {t : Nat} (e : gZ St t = gZ En t) : frT P ρ St En (t + 1) = frT P ρ St En t := by
  show sub ρ (seg P (gZ St t) (gZ En t)) ++ _ = _
  rw [e, seg_nil]
  rfl
theorem frT_on {P : List Int} {ρ : Int → List Int} {St En : List Int} {t : Nat} (hl : t < St.length) (h0 : 0 ≤ gZ St t) (h1 : gZ St t < gZ En t) (h2 : gZ St t < P.length) : frT P ρ St En (t + 1) = (if gZ P (gZ St t) < 99 then ρ (gZ P (gZ St t)) else [gZ P (gZ St t)]) ++ frT P ρ (sZ St t (gZ St t + 1)) En (t + 1) := by
  have s1 : gZ (sZ St t (gZ St t + 1)) t = gZ St t + 1 := by rw [gZ_sZ (by omega) (by omega) (by omega), if_pos rfl]
  have e : frT P ρ (sZ St t (gZ St t + 1)) En t = frT P ρ St En t := frT_congr (fun i hi => ⟨by rw [gZ_sZ (by omega) (by omega) (by omega), if_neg (by omega)], rfl⟩)
  show sub ρ (seg P (gZ St t) (gZ En t)) ++ frT P ρ St En t = _ ++ (sub ρ (seg P (gZ (sZ St t (gZ St t + 1)) t) (gZ En t)) ++ frT P ρ (sZ St t (gZ St t + 1)) En t)
  rw [e, s1, seg_cons h0 h1 h2, sub_cons, List.append_assoc]
theorem frT_push {P : List Int} {ρ : Int → List Int} {St En : List Int} {t : Nat} {b : Int} (hb : 0 ≤ b) (hl : t + 1 < St.length) (hl2 : t + 1 < En.length) : frT P ρ (sZ St ((t + 1 : Nat) : Int) b) (sZ En ((t + 1 : Nat) : Int) (b + (tm P b.toNat).length)) (t + 2) = sub ρ (tm P b.toNat) ++ frT P ρ St En (t + 1) := by
  have s1 : gZ (sZ St ((t + 1 : Nat) : Int) b) ((t + 1 : Nat) : Int) = b := by rw [gZ_sZ (by omega) (by omega) (by omega), if_pos rfl]
  have s2 : gZ (sZ En ((t + 1 : Nat) : Int) (b + (tm P b.toNat).length)) ((t + 1 : Nat) : Int) = b + (tm P b.toNat).length := by rw [gZ_sZ (by omega) (by omega) (by omega), if_pos rfl]
  have e : frT P ρ (sZ St ((t + 1 : Nat) : Int) b) (sZ En ((t + 1 : Nat) : Int) (b + (tm P b.toNat).length)) (t + 1) = frT P ρ St En (t + 1) := frT_congr (fun i hi => ⟨by rw [gZ_sZ (by omega) (by omega) (by omega), if_neg (by omega)], by rw [gZ_sZ (by omega) (by omega) (by omega), if_neg (by omega)]⟩)
  show sub ρ (seg P _ _) ++ frT P ρ _ _ (t + 1) = _
  rw [e, s1, s2, seg_tm hb]
theorem FrOK_push {P : List Int} {ρ : Int → List Int} {St En : List Int} {V : List Int} {s b : Int} (h : FrOK P ρ St En V) (hl : St.length = 400) (hl2 : En.length = 400) (hb : 0 ≤ b) (hb2 : b < P.length) (hs : 0 ≤ s ∧ s < 52) (hρ : ρ s = mk_ :: sub ρ (tm P b.toNat)) (hu : ∀ u ∈ V, (ρ s).length < (ρ u).length) :
    FrOK P ρ (sZ St ((V.length + 1 : Nat) : Int) b) (sZ En ((V.length + 1 : Nat) : Int) (b + (tm P b.toNat).length)) (s :: V) := by
  have hv := FrOK_len h
  have s1 : gZ (sZ St ((V.length + 1 : Nat) : Int) b) ((V.length + 1 : Nat) : Int) = b := by rw [gZ_sZ (by omega) (by omega) (by omega), if_pos rfl]
  have s2 : gZ (sZ En ((V.length + 1 : Nat) : Int) (b + (tm P b.toNat).length)) ((V.length + 1 : Nat) : Int) = b + (tm P b.toNat).length := by rw [gZ_sZ (by omega) (by omega) (by omega), if_pos rfl]
  have hf := tm_fit hb hb2
  refine ⟨⟨by rw [s1]; exact hb, by rw [s1, s2]; omega, by rw [s2]; exact hf⟩, ?_, hs, hu, FrOK_congr (fun i hi => ⟨by rw [gZ_sZ (by omega) (by omega) (by omega), if_neg (by omega)], by rw [gZ_sZ (by omega) (by omega) (by omega), if_neg (by omega)]⟩) h⟩
  rw [s1, s2, seg_tm hb, hρ, List.length_cons]
  omega
/-- what a bound variable at the topmost row's place leads to is shorter than all below -/
theorem FrOK_less {P : List Int} {ρ : Int → List Int} {St En : List Int} {V : List Int} (h : FrOK P ρ St En V) (h1 : gZ St V.length < gZ En V.length) (hs : gZ P (gZ St V.length) < 99) : ∀ u ∈ V, (ρ (gZ P (gZ St V.length))).length < (ρ u).length := by
  have ht := FrOK_top h
  obtain ⟨t1, t2, t3⟩ := ht
  cases V with
  | nil => intro u hu; cases hu
  | cons v V =>
    obtain ⟨h1', h2, h3, h4, h5⟩ := h
    have h2' : (sub ρ (seg P (gZ St (v :: V).length) (gZ En (v :: V).length))).length < (ρ v).length := h2
    have e : seg P (gZ St (v :: V).length) (gZ En (v :: V).length) = gZ P (gZ St (v :: V).length) :: seg P (gZ St (v :: V).length + 1) (gZ En (v :: V).length) := seg_cons t1 h1 (by omega)
    rw [e, sub_cons, if_pos hs, List.length_append] at h2'
    intro u hu
    rcases List.mem_cons.mp hu with rfl | hu
    · omega
    · have := h4 u hu
      omega
section OC
variable {w : Nat → xC} {N : Nat} {m : Nat → Int} {S Bd : List Int} {ρ : Int → List Int}
set_option maxHeartbeats 4000000 in
theorem l112 (d : Nat) (hN : 53 ≤ N) (hm : w 27 = .inr (8, mF m)) (hS : w 45 = cI 0 S) (hB : w 46 = cI 0 Bd) (hl : S.length < 10000) (hbl : Bd.length = 52) (hr : ∀ i, 0 ≤ gZ S i ∧ gZ S i < 100000) (hv : ∀ i, gZ S i < 99 → gZ S i < 52) (hb : ∀ v, 0 ≤ v → v < 52 → -1 ≤ gZ Bd v ∧ gZ Bd v < S.length) (hbT : ∀ v, 0 ≤ v → v < 52 → 0 ≤ gZ Bd v → Ts 1 (tm S (gZ Bd v).toNat)) (hρ : RB S (bdf Bd) ρ) (hne : ∀ v, ρ v ≠ []) (v : Int) (hv0 : 0 ≤ v) (hv1 : v < 52) (hvb : gZ Bd v < 0) :
    ∀ (n : Nat) (St En V : List Int) (T : Int) (lv : xL), St.length = 400 → En.length = 400 → T = V.length + 1 → FrOK S ρ St En V → 2 * (frT S ρ St En (V.length + 1)).length + V.length + 1 ≤ n → c1 lv → x_lk lv 0 = some (.ref 30) → x_lk lv 1 = some (.int (iZ v)) → x_lk lv 3 = some (.int (iZ T)) →
    ∃ St' En' : List Int, St'.length = 400 ∧ En'.length = 400 ∧ Gx q_k112 (d + 2) 20 (lv, [], hp (uH (uH w 49 (cI 0 St)) 50 (cI 0 En)) N) (some (.int (iZ (bZ (decide (v ∈ frT S ρ St En (V.length + 1)))))), hp (uH (uH w 49 (cI 0 St')) 50 (cI 0 En')) N) := by
  intro n
  induction n with
  | zero => intro St En V T lv _ _ _ _ hn; omega
  | succ n ih =>
    intro St En V T lv hs1 hs2 hT hF hn hc l0 l1 l3
    have hV := FrOK_len hF
    have hF1 := FrOK_top hF
    have eT : T - 1 = (V.length : Int) := by omega
    obtain ⟨f1, f2, f3⟩ := hF1
    have b0 : ¬ T ≤ 0 := by omega
    by_cases hq : gZ St (T - 1) = gZ En (T - 1)
    · -- the row is done
      have hp0 : frT S ρ St En (V.length + 1) = frT S ρ St En V.length := frT_pop (by rw [← eT]; exact hq)
      rw [hp0]
      cases V with
      | nil =>
        refine ⟨St, En, hs1, hs2, ?_⟩
        have e : decide (v ∈ frT S ρ St En ([] : List Int).length) = false := by simp [frT]
        rw [e]
        have hT1 : T = 1 := by simpa using hT
        subst hT1
        refine Gx.fin 60 Cs.tt (fun C _ => ?_)
        have q0 : gZ St 0 = gZ En 0 := hq
        simp (disch := first | (refine c1_id ?_; assumption) | (refine c1_st rfl ?_; first | assumption | (refine c1_st rfl ?_; first | assumption | (refine c1_st rfl ?_; first | assumption | (refine c1_st rfl ?_; assumption)))) | omega) [nx_l, nx_r, nx_n, x_st, x_push, x_bin, x_div, x_un, x_dup, x_pop, x_dup2, x_goto, x_ifeq, x_ifne, x_iflt, x_ifge, x_ifgt, x_ifle, x_iceq, x_icne, x_iclt, x_icge, x_icgt, x_icle, x_ifnull, x_ifnonnull, x_ldi, x_lda, x_sti, x_sta, x_iinc, x_gf, x_pf, x_ald, x_ast, x_aln, x_len, x_cl_, x_cv, x_cs, x_rc, x_r0, x_isT, x_oi, x_rv, x_ri, x_ra, Value.category, t112_0, t112_1, t112_2, t112_3, t112_6, t112_7, t112_8, t112_9, t112_10, t112_13, t112_14, t112_15, t112_16, t112_19, t112_20, t112_21, t112_24, t112_25, t112_28, t112_29, t112_30, t112_31, t112_32, t112_34, t112_36, t112_37, t112_40, t112_41, t112_42, t112_43, t112_44, t112_47, t112_50, t112_53, t112_54, t112_57, t112_58, t112_59, t112_60, t112_61, t112_62, t112_63, t112_64, t112_65, t112_66, t112_69, t112_71, t112_72, t112_74, t112_76, t112_77, t112_80, t112_81, t112_82, t112_84, t112_86, t112_89, t112_90, t112_93, t112_95, t112_96, t112_99, t112_100, t112_103, t112_104, t112_105, t112_108, t112_110, t112_111, t112_112, t112_113, t112_116, t112_117, t112_118, t112_119, t112_122, t112_124, t112_125, t112_128, t112_129, t112_132, t112_135, t112_136, lk_s, hp_get, hp_set, uH_at, uH_ne, uH_upd, uH_swap, iZ_add, iZ_sub, iZ_mul, iZ_neg, iZ_lt, iZ_le, iZ_eq, iZ_div, iZ_of, ix_Z, gZ_map, gZ_mapI, gZ_map', le_0, le_s, sZ_map, sZ_len, bZ_0, bZ_inj, bZ_t, bZ_f, nr_i, nr_0, nr_1, nr_b, ft_i, ft_b, ft_0, ft_1, zl_0, zl_1, zl_99, mF_len, mg_0, mg_1, mg_2, mg_3, mg_4, mg_5, mg_6, mg_7, mg_8, mg_9, mg_10, mg_11, mg_12, mg_13, mg_14, mg_15, mg_16, mg_17, mg_18, mg_19, mg_20, mg_21, mg_22, mg_23, mg_24, mg_25, mg_26, mg_27, mg_28, mg_29, mg_30, mg_31, mg_32, mg_33, mg_34, mg_35, mg_36, mg_37, mg_38, ms_0, ms_1, ms_2, ms_13, ms_14, ms_15, ms_16, ms_21, ms_22, ms_23, ms_24, ms_28, ms_36, ms_37, ms_38, st_at, st_ne, st_st, st_swap, l0, l1, l3, hm, q0, -List.filter_filter, -List.getElem?_map, -List.getD_eq_getElem?_getD]
      | cons u V =>
        obtain ⟨St', En', k1, k2, k3⟩ := ih St En V (T - 1) ((3, .int (iZ (T - 1))) :: List.filter (x_keep 3) ((4, .int (iZ (gZ St (T - 1)))) :: List.filter (x_keep 4) lv)) hs1 hs2 (by rw [eT]; simp) hF.2.2.2.2 (by rw [hp0] at hn; simp only [List.length_cons] at hn; omega) (c1_st rfl (c1_st rfl hc)) (by rw [lk_s (c1_st rfl hc), lk_s hc]; exact l0) (by rw [lk_s (c1_st rfl hc), lk_s hc]; exact l1) (by rw [lk_s (c1_st rfl hc)]; rfl)
        refine ⟨St', En', k1, k2, Gx.run 60 Cs.tt (fun C _ => ?_) k3⟩
        have b3 : -1 + T = T - 1 := by omega
        have b4 : T + -1 = T - 1 := by omega
        simp (disch := first | (refine c1_id ?_; assumption) | (refine c1_st rfl ?_; first | assumption | (refine c1_st rfl ?_; first | assumption | (refine c1_st rfl ?_; first | assumption | (refine c1_st rfl ?_; assumption)))) | omega) [nx_l, nx_r, nx_n, x_st, x_push, x_bin, x_div, x_un, x_dup, x_pop, x_dup2, x_goto, x_ifeq, x_ifne, x_iflt, x_ifge, x_ifgt, x_ifle, x_iceq, x_icne, x_iclt, x_icge, x_icgt, x_icle, x_ifnull, x_ifnonnull, x_ldi, x_lda, x_sti, x_sta, x_iinc, x_gf, x_pf, x_ald, x_ast, x_aln, x_len, x_cl_, x_cv, x_cs, x_rc, x_r0, x_isT, x_oi, x_rv, x_ri, x_ra, Value.category, t112_0, t112_1, t112_2, t112_3, t112_6, t112_7, t112_8, t112_9, t112_10, t112_13, t112_14, t112_15, t112_16, t112_19, t112_20, t112_21, t112_24, t112_25, t112_28, t112_29, t112_30, t112_31, t112_32, t112_34, t112_36, t112_37, t112_40, t112_41, t112_42, t112_43, t112_44, t112_47, t112_50, t112_53, t112_54, t112_57, t112_58, t112_59, t112_60, t112_61, t112_62, t112_63, t112_64, t112_65, t112_66, t112_69, t112_71, t112_72, t112_74, t112_76, t112_77, t112_80, t112_81, t112_82, t112_84, t112_86, t112_89, t112_90, t112_93, t112_95, t112_96, t112_99, t112_100, t112_103, t112_104, t112_105, t112_108, t112_110, t112_111, t112_112, t112_113, t112_116, t112_117, t112_118, t112_119, t112_122, t112_124, t112_125, t112_128, t112_129, t112_132, t112_135, t112_136, lk_s, hp_get, hp_set, uH_at, uH_ne, uH_upd, uH_swap, iZ_add, iZ_sub, iZ_mul, iZ_neg, iZ_lt, iZ_le, iZ_eq, iZ_div, iZ_of, ix_Z, gZ_map, gZ_mapI, gZ_map', le_0, le_s, sZ_map, sZ_len, bZ_0, bZ_inj, bZ_t, bZ_f, nr_i, nr_0, nr_1, nr_b, ft_i, ft_b, ft_0, ft_1, zl_0, zl_1, zl_99, mF_len, mg_0, mg_1, mg_2, mg_3, mg_4, mg_5, mg_6, mg_7, mg_8, mg_9, mg_10, mg_11, mg_12, mg_13, mg_14, mg_15, mg_16, mg_17, mg_18, mg_19, mg_20, mg_21, mg_22, mg_23, mg_24, mg_25, mg_26, mg_27, mg_28, mg_29, mg_30, mg_31, mg_32, mg_33, mg_34, mg_35, mg_36, mg_37, mg_38, ms_0, ms_1, ms_2, ms_13, ms_14, ms_15, ms_16, ms_21, ms_22, ms_23, ms_24, ms_28, ms_36, ms_37, ms_38, st_at, st_ne, st_st, st_swap, l0, l1, l3, hm, hq, b0, b3, b4, -List.filter_filter, -List.getElem?_map, -List.getD_eq_getElem?_getD]
    · have q1 : gZ St V.length < gZ En V.length := by
        rw [eT] at hq
        omega
      have q2 : gZ St (T - 1) < S.length := by
        rw [eT]
        omega
      have q3 : 0 ≤ gZ St (T - 1) := by
        rw [eT]
        exact f1
      have hon := frT_on (P := S) (ρ := ρ) (St := St) (En := En) (t := V.length) (by omega) f1 q1 (by omega)
      have hF2 := FrOK_on hne hF hs1 (by omega)
      have hless := FrOK_less hF q1
      rw [← eT] at hon hF2 hless f1 f2 f3 q1
      have g1 := hr (gZ St (T - 1))
      have g9 : gZ En (T - 1) < 100000 := by omega
      by_cases hsv : gZ S (gZ St (T - 1)) = v
      · -- found
        refine ⟨sZ St (T - 1) (gZ St (T - 1) + 1), En, by rw [sZ_len]; exact hs1, hs2, ?_⟩
        have e : decide (v ∈ frT S ρ St En (V.length + 1)) = true := by
          refine decide_eq_true ?_
          rw [hon, hsv, if_pos (by omega), (hρ v (by omega)).1 (by rw [bdf_in hv0 hv1]; exact hvb)]
          simp
        rw [e]
        refine Gx.fin 60 Cs.tt (fun C _ => ?_)
        simp (disch := first | (refine c1_id ?_; assumption) | (refine c1_st rfl ?_; first | assumption | (refine c1_st rfl ?_; first | assumption | (refine c1_st rfl ?_; first | assumption | (refine c1_st rfl ?_; assumption)))) | omega) [nx_l, nx_r, nx_n, x_st, x_push, x_bin, x_div, x_un, x_dup, x_pop, x_dup2, x_goto, x_ifeq, x_ifne, x_iflt, x_ifge, x_ifgt, x_ifle, x_iceq, x_icne, x_iclt, x_icge, x_icgt, x_icle, x_ifnull, x_ifnonnull, x_ldi, x_lda, x_sti, x_sta, x_iinc, x_gf, x_pf, x_ald, x_ast, x_aln, x_len, x_cl_, x_cv, x_cs, x_rc, x_r0, x_isT, x_oi, x_rv, x_ri, x_ra, Value.category, t112_0, t112_1, t112_2, t112_3, t112_6, t112_7, t112_8, t112_9, t112_10, t112_13, t112_14, t112_15, t112_16, t112_19, t112_20, t112_21, t112_24, t112_25, t112_28, t112_29, t112_30, t112_31, t112_32, t112_34, t112_36, t112_37, t112_40, t112_41, t112_42, t112_43, t112_44, t112_47, t112_50, t112_53, t112_54, t112_57, t112_58, t112_59, t112_60, t112_61, t112_62, t112_63, t112_64, t112_65, t112_66, t112_69, t112_71, t112_72, t112_74, t112_76, t112_77, t112_80, t112_81, t112_82, t112_84, t112_86, t112_89, t112_90, t112_93, t112_95, t112_96, t112_99, t112_100, t112_103, t112_104, t112_105, t112_108, t112_110, t112_111, t112_112, t112_113, t112_116, t112_117, t112_118, t112_119, t112_122, t112_124, t112_125, t112_128, t112_129, t112_132, t112_135, t112_136, lk_s, hp_get, hp_set, uH_at, uH_ne, uH_upd, uH_swap, iZ_add, iZ_sub, iZ_mul, iZ_neg, iZ_lt, iZ_le, iZ_eq, iZ_div, iZ_of, ix_Z, gZ_map, gZ_mapI, gZ_map', le_0, le_s, sZ_map, sZ_len, bZ_0, bZ_inj, bZ_t, bZ_f, nr_i, nr_0, nr_1, nr_b, ft_i, ft_b, ft_0, ft_1, zl_0, zl_1, zl_99, mF_len, mg_0, mg_1, mg_2, mg_3, mg_4, mg_5, mg_6, mg_7, mg_8, mg_9, mg_10, mg_11, mg_12, mg_13, mg_14, mg_15, mg_16, mg_17, mg_18, mg_19, mg_20, mg_21, mg_22, mg_23, mg_24, mg_25, mg_26, mg_27, mg_28, mg_29, mg_30, mg_31, mg_32, mg_33, mg_34, mg_35, mg_36, mg_37, mg_38, ms_0, ms_1, ms_2, ms_13, ms_14, ms_15, ms_16, ms_21, ms_22, ms_23, ms_24, ms_28, ms_36, ms_37, ms_38, st_at, st_ne, st_st, st_swap, l0, l1, l3, hm, hS, hq, b0, hsv, -List.filter_filter, -List.getElem?_map, -List.getD_eq_getElem?_getD]
      · by_cases hbd : gZ S (gZ St (T - 1)) < 99 ∧ 0 ≤ gZ Bd (gZ S (gZ St (T - 1)))
        · -- a bound variable
          have s52 := hv _ hbd.1
          have gb := hb _ g1.1 s52
          have gT := hbT _ g1.1 s52 hbd.2
          have hρs : ρ (gZ S (gZ St (T - 1))) = mk_ :: sub ρ (tm S (gZ Bd (gZ S (gZ St (T - 1)))).toNat) := by
            have := (hρ _ hbd.1).2 (by rw [bdf_in g1.1 s52]; exact hbd.2)
            rw [bdf_in g1.1 s52] at this
            exact this
          have hl1 : (sZ St (T - 1) (gZ St (T - 1) + 1)).length = 400 := by rw [sZ_len]; exact hs1
          have hF3 := FrOK_push hF2 hl1 hs2 hbd.2 gb.2 ⟨g1.1, s52⟩ hρs (hless hbd.1)
          have hpu := frT_push (P := S) (ρ := ρ) (St := sZ St (T - 1) (gZ St (T - 1) + 1)) (En := En) (t := V.length) hbd.2 (by omega) (by omega)
          have eT1 : ((V.length + 1 : Nat) : Int) = T := by omega
          rw [eT1] at hF3 hpu
          have etr : frT S ρ St En (V.length + 1) = mk_ :: frT S ρ (sZ (sZ St (T - 1) (gZ St (T - 1) + 1)) T (gZ Bd (gZ S (gZ St (T - 1))))) (sZ En T (gZ Bd (gZ S (gZ St (T - 1))) + (tm S (gZ Bd (gZ S (gZ St (T - 1)))).toNat).length)) (V.length + 2) := by
            rw [hon, if_pos hbd.1, hρs, hpu]
            rfl
          have mm := m109 d (w := uH (uH w 49 (cI 0 (sZ (sZ St (T - 1) (gZ St (T - 1) + 1)) T (gZ Bd (gZ S (gZ St (T - 1))))))) 50 (cI 0 En)) (m := m) (S := S) (N := N) hN (by rw [uH_ne (by omega), uH_ne (by omega)]; exact hm) (by rw [uH_ne (by omega), uH_ne (by omega)]; exact hS) hl hr (gZ Bd (gZ S (gZ St (T - 1)))) hbd.2 gT
          obtain ⟨St', En', k1, k2, k3⟩ := ih _ _ (gZ S (gZ St (T - 1)) :: V) (T + 1) ((3, .int (iZ (T + 1))) :: List.filter (x_keep 3) ((5, .int (iZ (gZ S (gZ St (T - 1))))) :: List.filter (x_keep 5) ((4, .int (iZ (gZ St (T - 1)))) :: List.filter (x_keep 4) lv))) (by rw [sZ_len]; exact hl1) (by rw [sZ_len]; exact hs2) (by simp only [List.length_cons]; omega) hF3 (by rw [etr, List.length_cons] at hn; rw [List.length_cons, show V.length + 1 + 1 = V.length + 2 by omega]; omega) (c1_st rfl (c1_st rfl (c1_st rfl hc))) (by rw [lk_s (c1_st rfl (c1_st rfl hc)), lk_s (c1_st rfl hc), lk_s hc]; exact l0) (by rw [lk_s (c1_st rfl (c1_st rfl hc)), lk_s (c1_st rfl hc), lk_s hc]; exact l1) (by rw [lk_s (c1_st rfl (c1_st rfl hc))]; rfl)
          have em : decide (v ∈ frT S ρ St En (V.length + 1)) = decide (v ∈ frT S ρ (sZ (sZ St (T - 1) (gZ St (T - 1) + 1)) T (gZ Bd (gZ S (gZ St (T - 1))))) (sZ En T (gZ Bd (gZ S (gZ St (T - 1))) + (tm S (gZ Bd (gZ S (gZ St (T - 1)))).toNat).length)) ((gZ S (gZ St (T - 1)) :: V).length + 1)) := by
            rw [etr]
            have h9 : v ≠ mk_ := by unfold mk_; omega
            simp [h9]
          rw [em]
          refine ⟨St', En', k1, k2, Gx.run 100 mm (fun C mm => ?_) k3⟩
          have b2 : ¬ 99 ≤ gZ S (gZ St (T - 1)) := by omega
          have b3 : ¬ gZ Bd (gZ S (gZ St (T - 1))) < 0 := by omega
          simp (disch := first | (refine c1_id ?_; assumption) | (refine c1_st rfl ?_; first | assumption | (refine c1_st rfl ?_; first | assumption | (refine c1_st rfl ?_; first | assumption | (refine c1_st rfl ?_; assumption)))) | omega) [nx_l, nx_r, nx_n, x_st, x_push, x_bin, x_div, x_un, x_dup, x_pop, x_dup2, x_goto, x_ifeq, x_ifne, x_iflt, x_ifge, x_ifgt, x_ifle, x_iceq, x_icne, x_iclt, x_icge, x_icgt, x_icle, x_ifnull, x_ifnonnull, x_ldi, x_lda, x_sti, x_sta, x_iinc, x_gf, x_pf, x_ald, x_ast, x_aln, x_len, x_cl_, x_cv, x_cs, x_rc, x_r0, x_isT, x_oi, x_rv, x_ri, x_ra, Value.category, t112_0, t112_1, t112_2, t112_3, t112_6, t112_7, t112_8, t112_9, t112_10, t112_13, t112_14, t112_15, t112_16, t112_19, t112_20, t112_21, t112_24, t112_25, t112_28, t112_29, t112_30, t112_31, t112_32, t112_34, t112_36, t112_37, t112_40, t112_41, t112_42, t112_43, t112_44, t112_47, t112_50, t112_53, t112_54, t112_57, t112_58, t112_59, t112_60, t112_61, t112_62, t112_63, t112_64, t112_65, t112_66, t112_69, t112_71, t112_72, t112_74, t112_76, t112_77, t112_80, t112_81, t112_82, t112_84, t112_86, t112_89, t112_90, t112_93, t112_95, t112_96, t112_99, t112_100, t112_103, t112_104, t112_105, t112_108, t112_110, t112_111, t112_112, t112_113, t112_116, t112_117, t112_118, t112_119, t112_122, t112_124, t112_125, t112_128, t112_129, t112_132, t112_135, t112_136, lk_s, hp_get, hp_set, uH_at, uH_ne, uH_upd, uH_swap, iZ_add, iZ_sub, iZ_mul, iZ_neg, iZ_lt, iZ_le, iZ_eq, iZ_div, iZ_of, ix_Z, gZ_map, gZ_mapI, gZ_map', le_0, le_s, sZ_map, sZ_len, bZ_0, bZ_inj, bZ_t, bZ_f, nr_i, nr_0, nr_1, nr_b, ft_i, ft_b, ft_0, ft_1, zl_0, zl_1, zl_99, mF_len, mg_0, mg_1, mg_2, mg_3, mg_4, mg_5, mg_6, mg_7, mg_8, mg_9, mg_10, mg_11, mg_12, mg_13, mg_14, mg_15, mg_16, mg_17, mg_18, mg_19, mg_20, mg_21, mg_22, mg_23, mg_24, mg_25, mg_26, mg_27, mg_28, mg_29, mg_30, mg_31, mg_32, mg_33, mg_34, mg_35, mg_36, mg_37, mg_38, ms_0, ms_1, ms_2, ms_13, ms_14, ms_15, ms_16, ms_21, ms_22, ms_23, ms_24, ms_28, ms_36, ms_37, ms_38, st_at, st_ne, st_st, st_swap, l0, l1, l3, hm, hS, hB, hq, b0, hsv, b2, b3, mm, -List.filter_filter, -List.getElem?_map, -List.getD_eq_getElem?_getD]
        · -- a sign that leads nowhere
          have etr : frT S ρ St En (V.length + 1) = gZ S (gZ St (T - 1)) :: frT S ρ (sZ St (T - 1) (gZ St (T - 1) + 1)) En (V.length + 1) := by
            rw [hon]
            by_cases h9 : gZ S (gZ St (T - 1)) < 99
            · have s52 := hv _ h9
              have gb : gZ Bd (gZ S (gZ St (T - 1))) < 0 := by omega
              rw [if_pos h9, (hρ _ h9).1 (by rw [bdf_in g1.1 s52]; exact gb)]
              rfl
            · rw [if_neg h9]
              rfl
          obtain ⟨St', En', k1, k2, k3⟩ := ih (sZ St (T - 1) (gZ St (T - 1) + 1)) En V T ((5, .int (iZ (gZ S (gZ St (T - 1))))) :: List.filter (x_keep 5) ((4, .int (iZ (gZ St (T - 1)))) :: List.filter (x_keep 4) lv)) (by rw [sZ_len]; exact hs1) hs2 hT hF2 (by rw [etr] at hn; simp only [List.length_cons] at hn; omega) (c1_st rfl (c1_st rfl hc)) (by rw [lk_s (c1_st rfl hc), lk_s hc]; exact l0) (by rw [lk_s (c1_st rfl hc), lk_s hc]; exact l1) (by rw [lk_s (c1_st rfl hc), lk_s hc]; exact l3)
          have em : decide (v ∈ frT S ρ St En (V.length + 1)) = decide (v ∈ frT S ρ (sZ St (T - 1) (gZ St (T - 1) + 1)) En (V.length + 1)) := by
            rw [etr]
            have h9 : v ≠ gZ S (gZ St (T - 1)) := fun e => hsv e.symm
            simp [h9]
          rw [em]
          refine ⟨St', En', k1, k2, Gx.run 100 Cs.tt (fun C _ => ?_) k3⟩
          by_cases h9 : 99 ≤ gZ S (gZ St (T - 1))
          · simp (disch := first | (refine c1_id ?_; assumption) | (refine c1_st rfl ?_; first | assumption | (refine c1_st rfl ?_; first | assumption | (refine c1_st rfl ?_; first | assumption | (refine c1_st rfl ?_; assumption)))) | omega) [nx_l, nx_r, nx_n, x_st, x_push, x_bin, x_div, x_un, x_dup, x_pop, x_dup2, x_goto, x_ifeq, x_ifne, x_iflt, x_ifge, x_ifgt, x_ifle, x_iceq, x_icne, x_iclt, x_icge, x_icgt, x_icle, x_ifnull, x_ifnonnull, x_ldi, x_lda, x_sti, x_sta, x_iinc, x_gf, x_pf, x_ald, x_ast, x_aln, x_len, x_cl_, x_cv, x_cs, x_rc, x_r0, x_isT, x_oi, x_rv, x_ri, x_ra, Value.category, t112_0, t112_1, t112_2, t112_3, t112_6, t112_7, t112_8, t112_9, t112_10, t112_13, t112_14, t112_15, t112_16, t112_19, t112_20, t112_21, t112_24, t112_25, t112_28, t112_29, t112_30, t112_31, t112_32, t112_34, t112_36, t112_37, t112_40, t112_41, t112_42, t112_43, t112_44, t112_47, t112_50, t112_53, t112_54, t112_57, t112_58, t112_59, t112_60, t112_61, t112_62, t112_63, t112_64, t112_65, t112_66, t112_69, t112_71, t112_72, t112_74, t112_76, t112_77, t112_80, t112_81, t112_82, t112_84, t112_86, t112_89, t112_90, t112_93, t112_95, t112_96, t112_99, t112_100, t112_103, t112_104, t112_105, t112_108, t112_110, t112_111, t112_112, t112_113, t112_116, t112_117, t112_118, t112_119, t112_122, t112_124, t112_125, t112_128, t112_129, t112_132, t112_135, t112_136, lk_s, hp_get, hp_set, uH_at, uH_ne, uH_upd, uH_swap, iZ_add, iZ_sub, iZ_mul, iZ_neg, iZ_lt, iZ_le, iZ_eq, iZ_div, iZ_of, ix_Z, gZ_map, gZ_mapI, gZ_map', le_0, le_s, sZ_map, sZ_len, bZ_0, bZ_inj, bZ_t, bZ_f, nr_i, nr_0, nr_1, nr_b, ft_i, ft_b, ft_0, ft_1, zl_0, zl_1, zl_99, mF_len, mg_0, mg_1, mg_2, mg_3, mg_4, mg_5, mg_6, mg_7, mg_8, mg_9, mg_10, mg_11, mg_12, mg_13, mg_14, mg_15, mg_16, mg_17, mg_18, mg_19, mg_20, mg_21, mg_22, mg_23, mg_24, mg_25, mg_26, mg_27, mg_28, mg_29, mg_30, mg_31, mg_32, mg_33, mg_34, mg_35, mg_36, mg_37, mg_38, ms_0, ms_1, ms_2, ms_13, ms_14, ms_15, ms_16, ms_21, ms_22, ms_23, ms_24, ms_28, ms_36, ms_37, ms_38, st_at, st_ne, st_st, st_swap, l0, l1, l3, hm, hS, hB, hq, b0, hsv, h9, -List.filter_filter, -List.getElem?_map, -List.getD_eq_getElem?_getD]
          · have s52 := hv (gZ St (T - 1)) (by omega)
            have gb := hb _ g1.1 s52
            have b3 : gZ Bd (gZ S (gZ St (T - 1))) < 0 := by omega
            simp (disch := first | (refine c1_id ?_; assumption) | (refine c1_st rfl ?_; first | assumption | (refine c1_st rfl ?_; first | assumption | (refine c1_st rfl ?_; first | assumption | (refine c1_st rfl ?_; assumption)))) | omega) [nx_l, nx_r, nx_n, x_st, x_push, x_bin, x_div, x_un, x_dup, x_pop, x_dup2, x_goto, x_ifeq, x_ifne, x_iflt, x_ifge, x_ifgt, x_ifle, x_iceq, x_icne, x_iclt, x_icge, x_icgt, x_icle, x_ifnull, x_ifnonnull, x_ldi, x_lda, x_sti, x_sta, x_iinc, x_gf, x_pf, x_ald, x_ast, x_aln, x_len, x_cl_, x_cv, x_cs, x_rc, x_r0, x_isT, x_oi, x_rv, x_ri, x_ra, Value.category, t112_0, t112_1, t112_2, t112_3, t112_6, t112_7, t112_8, t112_9, t112_10, t112_13, t112_14, t112_15, t112_16, t112_19, t112_20, t112_21, t112_24, t112_25, t112_28, t112_29, t112_30, t112_31, t112_32, t112_34, t112_36, t112_37, t112_40, t112_41, t112_42, t112_43, t112_44, t112_47, t112_50, t112_53, t112_54, t112_57, t112_58, t112_59, t112_60, t112_61, t112_62, t112_63, t112_64, t112_65, t112_66, t112_69, t112_71, t112_72, t112_74, t112_76, t112_77, t112_80, t112_81, t112_82, t112_84, t112_86, t112_89, t112_90, t112_93, t112_95, t112_96, t112_99, t112_100, t112_103, t112_104, t112_105, t112_108, t112_110, t112_111, t112_112, t112_113, t112_116, t112_117, t112_118, t112_119, t112_122, t112_124, t112_125, t112_128, t112_129, t112_132, t112_135, t112_136, lk_s, hp_get, hp_set, uH_at, uH_ne, uH_upd, uH_swap, iZ_add, iZ_sub, iZ_mul, iZ_neg, iZ_lt, iZ_le, iZ_eq, iZ_div, iZ_of, ix_Z, gZ_map, gZ_mapI, gZ_map', le_0, le_s, sZ_map, sZ_len, bZ_0, bZ_inj, bZ_t, bZ_f, nr_i, nr_0, nr_1, nr_b, ft_i, ft_b, ft_0, ft_1, zl_0, zl_1, zl_99, mF_len, mg_0, mg_1, mg_2, mg_3, mg_4, mg_5, mg_6, mg_7, mg_8, mg_9, mg_10, mg_11, mg_12, mg_13, mg_14, mg_15, mg_16, mg_17, mg_18, mg_19, mg_20, mg_21, mg_22, mg_23, mg_24, mg_25, mg_26, mg_27, mg_28, mg_29, mg_30, mg_31, mg_32, mg_33, mg_34, mg_35, mg_36, mg_37, mg_38, ms_0, ms_1, ms_2, ms_13, ms_14, ms_15, ms_16, ms_21, ms_22, ms_23, ms_24, ms_28, ms_36, ms_37, ms_38, st_at, st_ne, st_st, st_swap, l0, l1, l3, hm, hS, hB, hq, b0, hsv, h9, b3, -List.filter_filter, -List.getElem?_map, -List.getD_eq_getElem?_getD]
end OC
