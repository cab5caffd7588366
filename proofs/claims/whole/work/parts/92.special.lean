/-! the reference: is the claim more special -/
theorem f130_0 : x_fetch q_k130 0 = x_lda 1 0 := rfl
theorem t130_0 (C : xF) (s n : Nat) (z : xS) : x_to q_k130 C s (n + 1) 0 z = x_nx q_k130 C s n ((x_lda 1 0) C z) := x_to_at f130_0 C s n z
theorem f130_1 : x_fetch q_k130 1 = x_ldi 2 1 := rfl
theorem t130_1 (C : xF) (s n : Nat) (z : xS) : x_to q_k130 C s (n + 1) 1 z = x_nx q_k130 C s n ((x_ldi 2 1) C z) := x_to_at f130_1 C s n z
theorem f130_2 : x_fetch q_k130 2 = x_st (x_push 3 (.int (0))) := rfl
theorem t130_2 (C : xF) (s n : Nat) (z : xS) : x_to q_k130 C s (n + 1) 2 z = x_nx q_k130 C s n ((x_st (x_push 3 (.int (0)))) C z) := x_to_at f130_2 C s n z
theorem f130_3 : x_fetch q_k130 3 = x_st (x_push 4 (.int (0))) := rfl
theorem t130_3 (C : xF) (s n : Nat) (z : xS) : x_to q_k130 C s (n + 1) 3 z = x_nx q_k130 C s n ((x_st (x_push 4 (.int (0)))) C z) := x_to_at f130_3 C s n z
theorem f130_4 : x_fetch q_k130 4 = x_cv 7 110 4 8 := rfl
theorem t130_4 (C : xF) (s n : Nat) (z : xS) : x_to q_k130 C s (n + 1) 4 z = x_nx q_k130 C s n ((x_cv 7 110 4 8) C z) := x_to_at f130_4 C s n z
theorem f130_7 : x_fetch q_k130 7 = x_st (x_push 8 (.int (0))) := rfl
theorem t130_7 (C : xF) (s n : Nat) (z : xS) : x_to q_k130 C s (n + 1) 7 z = x_nx q_k130 C s n ((x_st (x_push 8 (.int (0)))) C z) := x_to_at f130_7 C s n z
theorem f130_8 : x_fetch q_k130 8 = x_sti 9 2 := rfl
theorem t130_8 (C : xF) (s n : Nat) (z : xS) : x_to q_k130 C s (n + 1) 8 z = x_nx q_k130 C s n ((x_sti 9 2) C z) := x_to_at f130_8 C s n z
theorem f130_9 : x_fetch q_k130 9 = x_ldi 10 2 := rfl
theorem t130_9 (C : xF) (s n : Nat) (z : xS) : x_to q_k130 C s (n + 1) 9 z = x_nx q_k130 C s n ((x_ldi 10 2) C z) := x_to_at f130_9 C s n z
theorem f130_10 : x_fetch q_k130 10 = x_lda 11 0 := rfl
theorem t130_10 (C : xF) (s n : Nat) (z : xS) : x_to q_k130 C s (n + 1) 10 z = x_nx q_k130 C s n ((x_lda 11 0) C z) := x_to_at f130_10 C s n z
theorem f130_11 : x_fetch q_k130 11 = x_gf 14 8 26 := rfl
theorem t130_11 (C : xF) (s n : Nat) (z : xS) : x_to q_k130 C s (n + 1) 11 z = x_nx q_k130 C s n ((x_gf 14 8 26) C z) := x_to_at f130_11 C s n z
theorem f130_14 : x_fetch q_k130 14 = x_lda 15 0 := rfl
theorem t130_14 (C : xF) (s n : Nat) (z : xS) : x_to q_k130 C s (n + 1) 14 z = x_nx q_k130 C s n ((x_lda 15 0) C z) := x_to_at f130_14 C s n z
theorem f130_15 : x_fetch q_k130 15 = x_gf 18 8 28 := rfl
theorem t130_15 (C : xF) (s n : Nat) (z : xS) : x_to q_k130 C s (n + 1) 15 z = x_nx q_k130 C s n ((x_gf 18 8 28) C z) := x_to_at f130_15 C s n z
theorem f130_18 : x_fetch q_k130 18 = x_ald 19 0 := rfl
theorem t130_18 (C : xF) (s n : Nat) (z : xS) : x_to q_k130 C s (n + 1) 18 z = x_nx q_k130 C s n ((x_ald 19 0) C z) := x_to_at f130_18 C s n z
theorem f130_19 : x_fetch q_k130 19 = x_st (x_icge 43 22) := rfl
theorem t130_19 (C : xF) (s n : Nat) (z : xS) : x_to q_k130 C s (n + 1) 19 z = x_nx q_k130 C s n ((x_st (x_icge 43 22)) C z) := x_to_at f130_19 C s n z
theorem f130_22 : x_fetch q_k130 22 = x_lda 23 0 := rfl
theorem t130_22 (C : xF) (s n : Nat) (z : xS) : x_to q_k130 C s (n + 1) 22 z = x_nx q_k130 C s n ((x_lda 23 0) C z) := x_to_at f130_22 C s n z
theorem f130_23 : x_fetch q_k130 23 = x_gf 26 8 29 := rfl
theorem t130_23 (C : xF) (s n : Nat) (z : xS) : x_to q_k130 C s (n + 1) 23 z = x_nx q_k130 C s n ((x_gf 26 8 29) C z) := x_to_at f130_23 C s n z
theorem f130_26 : x_fetch q_k130 26 = x_st (x_push 28 (.int (88))) := rfl
theorem t130_26 (C : xF) (s n : Nat) (z : xS) : x_to q_k130 C s (n + 1) 26 z = x_nx q_k130 C s n ((x_st (x_push 28 (.int (88)))) C z) := x_to_at f130_26 C s n z
theorem f130_28 : x_fetch q_k130 28 = x_ldi 29 2 := rfl
theorem t130_28 (C : xF) (s n : Nat) (z : xS) : x_to q_k130 C s (n + 1) 28 z = x_nx q_k130 C s n ((x_ldi 29 2) C z) := x_to_at f130_28 C s n z
theorem f130_29 : x_fetch q_k130 29 = x_st (x_bin 30 (fun a b => a + b)) := rfl
theorem t130_29 (C : xF) (s n : Nat) (z : xS) : x_to q_k130 C s (n + 1) 29 z = x_nx q_k130 C s n ((x_st (x_bin 30 (fun a b => a + b))) C z) := x_to_at f130_29 C s n z
theorem f130_30 : x_fetch q_k130 30 = x_lda 31 0 := rfl
theorem t130_30 (C : xF) (s n : Nat) (z : xS) : x_to q_k130 C s (n + 1) 30 z = x_nx q_k130 C s n ((x_lda 31 0) C z) := x_to_at f130_30 C s n z
theorem f130_31 : x_fetch q_k130 31 = x_gf 34 8 25 := rfl
theorem t130_31 (C : xF) (s n : Nat) (z : xS) : x_to q_k130 C s (n + 1) 31 z = x_nx q_k130 C s n ((x_gf 34 8 25) C z) := x_to_at f130_31 C s n z
theorem f130_34 : x_fetch q_k130 34 = x_ldi 35 2 := rfl
theorem t130_34 (C : xF) (s n : Nat) (z : xS) : x_to q_k130 C s (n + 1) 34 z = x_nx q_k130 C s n ((x_ldi 35 2) C z) := x_to_at f130_34 C s n z
theorem f130_35 : x_fetch q_k130 35 = x_ald 36 0 := rfl
theorem t130_35 (C : xF) (s n : Nat) (z : xS) : x_to q_k130 C s (n + 1) 35 z = x_nx q_k130 C s n ((x_ald 36 0) C z) := x_to_at f130_35 C s n z
theorem f130_36 : x_fetch q_k130 36 = x_ast 37 0 (fun x => x) := rfl
theorem t130_36 (C : xF) (s n : Nat) (z : xS) : x_to q_k130 C s (n + 1) 36 z = x_nx q_k130 C s n ((x_ast 37 0 (fun x => x)) C z) := x_to_at f130_36 C s n z
theorem f130_37 : x_fetch q_k130 37 = x_iinc 40 2 (1) := rfl
theorem t130_37 (C : xF) (s n : Nat) (z : xS) : x_to q_k130 C s (n + 1) 37 z = x_nx q_k130 C s n ((x_iinc 40 2 (1)) C z) := x_to_at f130_37 C s n z
theorem f130_40 : x_fetch q_k130 40 = x_st (x_goto 9) := rfl
theorem t130_40 (C : xF) (s n : Nat) (z : xS) : x_to q_k130 C s (n + 1) 40 z = x_nx q_k130 C s n ((x_st (x_goto 9)) C z) := x_to_at f130_40 C s n z
theorem f130_43 : x_fetch q_k130 43 = x_lda 44 0 := rfl
theorem t130_43 (C : xF) (s n : Nat) (z : xS) : x_to q_k130 C s (n + 1) 43 z = x_nx q_k130 C s n ((x_lda 44 0) C z) := x_to_at f130_43 C s n z
theorem f130_44 : x_fetch q_k130 44 = x_gf 47 8 5 := rfl
theorem t130_44 (C : xF) (s n : Nat) (z : xS) : x_to q_k130 C s (n + 1) 44 z = x_nx q_k130 C s n ((x_gf 47 8 5) C z) := x_to_at f130_44 C s n z
theorem f130_47 : x_fetch q_k130 47 = x_ldi 48 1 := rfl
theorem t130_47 (C : xF) (s n : Nat) (z : xS) : x_to q_k130 C s (n + 1) 47 z = x_nx q_k130 C s n ((x_ldi 48 1) C z) := x_to_at f130_47 C s n z
theorem f130_48 : x_fetch q_k130 48 = x_ald 49 0 := rfl
theorem t130_48 (C : xF) (s n : Nat) (z : xS) : x_to q_k130 C s (n + 1) 48 z = x_nx q_k130 C s n ((x_ald 49 0) C z) := x_to_at f130_48 C s n z
theorem f130_49 : x_fetch q_k130 49 = x_sti 50 2 := rfl
theorem t130_49 (C : xF) (s n : Nat) (z : xS) : x_to q_k130 C s (n + 1) 49 z = x_nx q_k130 C s n ((x_sti 50 2) C z) := x_to_at f130_49 C s n z
theorem f130_50 : x_fetch q_k130 50 = x_ldi 51 2 := rfl
theorem t130_50 (C : xF) (s n : Nat) (z : xS) : x_to q_k130 C s (n + 1) 50 z = x_nx q_k130 C s n ((x_ldi 51 2) C z) := x_to_at f130_50 C s n z
theorem f130_51 : x_fetch q_k130 51 = x_st (x_ifle 63 54) := rfl
theorem t130_51 (C : xF) (s n : Nat) (z : xS) : x_to q_k130 C s (n + 1) 51 z = x_nx q_k130 C s n ((x_st (x_ifle 63 54)) C z) := x_to_at f130_51 C s n z
theorem f130_54 : x_fetch q_k130 54 = x_lda 55 0 := rfl
theorem t130_54 (C : xF) (s n : Nat) (z : xS) : x_to q_k130 C s (n + 1) 54 z = x_nx q_k130 C s n ((x_lda 55 0) C z) := x_to_at f130_54 C s n z
theorem f130_55 : x_fetch q_k130 55 = x_gf 58 8 28 := rfl
theorem t130_55 (C : xF) (s n : Nat) (z : xS) : x_to q_k130 C s (n + 1) 55 z = x_nx q_k130 C s n ((x_gf 58 8 28) C z) := x_to_at f130_55 C s n z
theorem f130_58 : x_fetch q_k130 58 = x_st (x_ifne 63 61) := rfl
theorem t130_58 (C : xF) (s n : Nat) (z : xS) : x_to q_k130 C s (n + 1) 58 z = x_nx q_k130 C s n ((x_st (x_ifne 63 61)) C z) := x_to_at f130_58 C s n z
theorem f130_61 : x_fetch q_k130 61 = x_st (x_push 62 (.int (0))) := rfl
theorem t130_61 (C : xF) (s n : Nat) (z : xS) : x_to q_k130 C s (n + 1) 61 z = x_nx q_k130 C s n ((x_st (x_push 62 (.int (0)))) C z) := x_to_at f130_61 C s n z
theorem f130_62 : x_fetch q_k130 62 = x_ri (.boolean) := rfl
theorem t130_62 (C : xF) (s n : Nat) (z : xS) : x_to q_k130 C s (n + 1) 62 z = x_nx q_k130 C s n ((x_ri (.boolean)) C z) := x_to_at f130_62 C s n z
theorem f130_63 : x_fetch q_k130 63 = x_st (x_push 64 (.int (0))) := rfl
theorem t130_63 (C : xF) (s n : Nat) (z : xS) : x_to q_k130 C s (n + 1) 63 z = x_nx q_k130 C s n ((x_st (x_push 64 (.int (0)))) C z) := x_to_at f130_63 C s n z
theorem f130_64 : x_fetch q_k130 64 = x_sti 65 3 := rfl
theorem t130_64 (C : xF) (s n : Nat) (z : xS) : x_to q_k130 C s (n + 1) 64 z = x_nx q_k130 C s n ((x_sti 65 3) C z) := x_to_at f130_64 C s n z
theorem f130_65 : x_fetch q_k130 65 = x_ldi 66 3 := rfl
theorem t130_65 (C : xF) (s n : Nat) (z : xS) : x_to q_k130 C s (n + 1) 65 z = x_nx q_k130 C s n ((x_ldi 66 3) C z) := x_to_at f130_65 C s n z
theorem f130_66 : x_fetch q_k130 66 = x_ldi 67 2 := rfl
theorem t130_66 (C : xF) (s n : Nat) (z : xS) : x_to q_k130 C s (n + 1) 66 z = x_nx q_k130 C s n ((x_ldi 67 2) C z) := x_to_at f130_66 C s n z
theorem f130_67 : x_fetch q_k130 67 = x_st (x_icge 83 70) := rfl
theorem t130_67 (C : xF) (s n : Nat) (z : xS) : x_to q_k130 C s (n + 1) 67 z = x_nx q_k130 C s n ((x_st (x_icge 83 70)) C z) := x_to_at f130_67 C s n z
theorem f130_70 : x_fetch q_k130 70 = x_lda 71 0 := rfl
theorem t130_70 (C : xF) (s n : Nat) (z : xS) : x_to q_k130 C s (n + 1) 70 z = x_nx q_k130 C s n ((x_lda 71 0) C z) := x_to_at f130_70 C s n z
theorem f130_71 : x_fetch q_k130 71 = x_gf 74 8 35 := rfl
theorem t130_71 (C : xF) (s n : Nat) (z : xS) : x_to q_k130 C s (n + 1) 71 z = x_nx q_k130 C s n ((x_gf 74 8 35) C z) := x_to_at f130_71 C s n z
theorem f130_74 : x_fetch q_k130 74 = x_ldi 75 3 := rfl
theorem t130_74 (C : xF) (s n : Nat) (z : xS) : x_to q_k130 C s (n + 1) 74 z = x_nx q_k130 C s n ((x_ldi 75 3) C z) := x_to_at f130_74 C s n z
theorem f130_75 : x_fetch q_k130 75 = x_st (x_push 76 (.int (0))) := rfl
theorem t130_75 (C : xF) (s n : Nat) (z : xS) : x_to q_k130 C s (n + 1) 75 z = x_nx q_k130 C s n ((x_st (x_push 76 (.int (0)))) C z) := x_to_at f130_75 C s n z
theorem f130_76 : x_fetch q_k130 76 = x_ast 77 0 (fun x => x) := rfl
theorem t130_76 (C : xF) (s n : Nat) (z : xS) : x_to q_k130 C s (n + 1) 76 z = x_nx q_k130 C s n ((x_ast 77 0 (fun x => x)) C z) := x_to_at f130_76 C s n z
theorem f130_77 : x_fetch q_k130 77 = x_iinc 80 3 (1) := rfl
theorem t130_77 (C : xF) (s n : Nat) (z : xS) : x_to q_k130 C s (n + 1) 77 z = x_nx q_k130 C s n ((x_iinc 80 3 (1)) C z) := x_to_at f130_77 C s n z
theorem f130_80 : x_fetch q_k130 80 = x_st (x_goto 65) := rfl
theorem t130_80 (C : xF) (s n : Nat) (z : xS) : x_to q_k130 C s (n + 1) 80 z = x_nx q_k130 C s n ((x_st (x_goto 65)) C z) := x_to_at f130_80 C s n z
theorem f130_83 : x_fetch q_k130 83 = x_st (x_push 84 (.int (1))) := rfl
theorem t130_83 (C : xF) (s n : Nat) (z : xS) : x_to q_k130 C s (n + 1) 83 z = x_nx q_k130 C s n ((x_st (x_push 84 (.int (1)))) C z) := x_to_at f130_83 C s n z
theorem f130_84 : x_fetch q_k130 84 = x_sti 85 3 := rfl
theorem t130_84 (C : xF) (s n : Nat) (z : xS) : x_to q_k130 C s (n + 1) 84 z = x_nx q_k130 C s n ((x_sti 85 3) C z) := x_to_at f130_84 C s n z
theorem f130_85 : x_fetch q_k130 85 = x_ldi 86 3 := rfl
theorem t130_85 (C : xF) (s n : Nat) (z : xS) : x_to q_k130 C s (n + 1) 85 z = x_nx q_k130 C s n ((x_ldi 86 3) C z) := x_to_at f130_85 C s n z
theorem f130_86 : x_fetch q_k130 86 = x_st (x_ifeq 199 89) := rfl
theorem t130_86 (C : xF) (s n : Nat) (z : xS) : x_to q_k130 C s (n + 1) 86 z = x_nx q_k130 C s n ((x_st (x_ifeq 199 89)) C z) := x_to_at f130_86 C s n z
theorem f130_89 : x_fetch q_k130 89 = x_lda 90 0 := rfl
theorem t130_89 (C : xF) (s n : Nat) (z : xS) : x_to q_k130 C s (n + 1) 89 z = x_nx q_k130 C s n ((x_lda 90 0) C z) := x_to_at f130_89 C s n z
theorem f130_90 : x_fetch q_k130 90 = x_ldi 91 1 := rfl
theorem t130_90 (C : xF) (s n : Nat) (z : xS) : x_to q_k130 C s (n + 1) 90 z = x_nx q_k130 C s n ((x_ldi 91 1) C z) := x_to_at f130_90 C s n z
theorem f130_91 : x_fetch q_k130 91 = x_ldi 92 2 := rfl
theorem t130_91 (C : xF) (s n : Nat) (z : xS) : x_to q_k130 C s (n + 1) 91 z = x_nx q_k130 C s n ((x_ldi 92 2) C z) := x_to_at f130_91 C s n z
theorem f130_92 : x_fetch q_k130 92 = x_cv 95 131 3 8 := rfl
theorem t130_92 (C : xF) (s n : Nat) (z : xS) : x_to q_k130 C s (n + 1) 92 z = x_nx q_k130 C s n ((x_cv 95 131 3 8) C z) := x_to_at f130_92 C s n z
theorem f130_95 : x_fetch q_k130 95 = x_sti 97 4 := rfl
theorem t130_95 (C : xF) (s n : Nat) (z : xS) : x_to q_k130 C s (n + 1) 95 z = x_nx q_k130 C s n ((x_sti 97 4) C z) := x_to_at f130_95 C s n z
theorem f130_97 : x_fetch q_k130 97 = x_ldi 99 4 := rfl
theorem t130_97 (C : xF) (s n : Nat) (z : xS) : x_to q_k130 C s (n + 1) 97 z = x_nx q_k130 C s n ((x_ldi 99 4) C z) := x_to_at f130_97 C s n z
theorem f130_99 : x_fetch q_k130 99 = x_ldi 100 2 := rfl
theorem t130_99 (C : xF) (s n : Nat) (z : xS) : x_to q_k130 C s (n + 1) 99 z = x_nx q_k130 C s n ((x_ldi 100 2) C z) := x_to_at f130_99 C s n z
theorem f130_100 : x_fetch q_k130 100 = x_st (x_icne 105 103) := rfl
theorem t130_100 (C : xF) (s n : Nat) (z : xS) : x_to q_k130 C s (n + 1) 100 z = x_nx q_k130 C s n ((x_st (x_icne 105 103)) C z) := x_to_at f130_100 C s n z
theorem f130_103 : x_fetch q_k130 103 = x_st (x_push 104 (.int (1))) := rfl
theorem t130_103 (C : xF) (s n : Nat) (z : xS) : x_to q_k130 C s (n + 1) 103 z = x_nx q_k130 C s n ((x_st (x_push 104 (.int (1)))) C z) := x_to_at f130_103 C s n z
theorem f130_104 : x_fetch q_k130 104 = x_ri (.boolean) := rfl
theorem t130_104 (C : xF) (s n : Nat) (z : xS) : x_to q_k130 C s (n + 1) 104 z = x_nx q_k130 C s n ((x_ri (.boolean)) C z) := x_to_at f130_104 C s n z
theorem f130_105 : x_fetch q_k130 105 = x_ldi 107 4 := rfl
theorem t130_105 (C : xF) (s n : Nat) (z : xS) : x_to q_k130 C s (n + 1) 105 z = x_nx q_k130 C s n ((x_ldi 107 4) C z) := x_to_at f130_105 C s n z
theorem f130_107 : x_fetch q_k130 107 = x_st (x_push 108 (.int (1))) := rfl
theorem t130_107 (C : xF) (s n : Nat) (z : xS) : x_to q_k130 C s (n + 1) 107 z = x_nx q_k130 C s n ((x_st (x_push 108 (.int (1)))) C z) := x_to_at f130_107 C s n z
theorem f130_108 : x_fetch q_k130 108 = x_st (x_bin 109 (fun a b => a + b)) := rfl
theorem t130_108 (C : xF) (s n : Nat) (z : xS) : x_to q_k130 C s (n + 1) 108 z = x_nx q_k130 C s n ((x_st (x_bin 109 (fun a b => a + b))) C z) := x_to_at f130_108 C s n z
theorem f130_109 : x_fetch q_k130 109 = x_sti 111 5 := rfl
theorem t130_109 (C : xF) (s n : Nat) (z : xS) : x_to q_k130 C s (n + 1) 109 z = x_nx q_k130 C s n ((x_sti 111 5) C z) := x_to_at f130_109 C s n z
theorem f130_111 : x_fetch q_k130 111 = x_ldi 113 5 := rfl
theorem t130_111 (C : xF) (s n : Nat) (z : xS) : x_to q_k130 C s (n + 1) 111 z = x_nx q_k130 C s n ((x_ldi 113 5) C z) := x_to_at f130_111 C s n z
theorem f130_113 : x_fetch q_k130 113 = x_ldi 114 2 := rfl
theorem t130_113 (C : xF) (s n : Nat) (z : xS) : x_to q_k130 C s (n + 1) 113 z = x_nx q_k130 C s n ((x_ldi 114 2) C z) := x_to_at f130_113 C s n z
theorem f130_114 : x_fetch q_k130 114 = x_st (x_icge 131 117) := rfl
theorem t130_114 (C : xF) (s n : Nat) (z : xS) : x_to q_k130 C s (n + 1) 114 z = x_nx q_k130 C s n ((x_st (x_icge 131 117)) C z) := x_to_at f130_114 C s n z
theorem f130_117 : x_fetch q_k130 117 = x_lda 118 0 := rfl
theorem t130_117 (C : xF) (s n : Nat) (z : xS) : x_to q_k130 C s (n + 1) 117 z = x_nx q_k130 C s n ((x_lda 118 0) C z) := x_to_at f130_117 C s n z
theorem f130_118 : x_fetch q_k130 118 = x_gf 121 8 35 := rfl
theorem t130_118 (C : xF) (s n : Nat) (z : xS) : x_to q_k130 C s (n + 1) 118 z = x_nx q_k130 C s n ((x_gf 121 8 35) C z) := x_to_at f130_118 C s n z
theorem f130_121 : x_fetch q_k130 121 = x_ldi 123 5 := rfl
theorem t130_121 (C : xF) (s n : Nat) (z : xS) : x_to q_k130 C s (n + 1) 121 z = x_nx q_k130 C s n ((x_ldi 123 5) C z) := x_to_at f130_121 C s n z
theorem f130_123 : x_fetch q_k130 123 = x_st (x_push 124 (.int (0))) := rfl
theorem t130_123 (C : xF) (s n : Nat) (z : xS) : x_to q_k130 C s (n + 1) 123 z = x_nx q_k130 C s n ((x_st (x_push 124 (.int (0)))) C z) := x_to_at f130_123 C s n z
theorem f130_124 : x_fetch q_k130 124 = x_ast 125 0 (fun x => x) := rfl
theorem t130_124 (C : xF) (s n : Nat) (z : xS) : x_to q_k130 C s (n + 1) 124 z = x_nx q_k130 C s n ((x_ast 125 0 (fun x => x)) C z) := x_to_at f130_124 C s n z
theorem f130_125 : x_fetch q_k130 125 = x_iinc 128 5 (1) := rfl
theorem t130_125 (C : xF) (s n : Nat) (z : xS) : x_to q_k130 C s (n + 1) 125 z = x_nx q_k130 C s n ((x_iinc 128 5 (1)) C z) := x_to_at f130_125 C s n z
theorem f130_128 : x_fetch q_k130 128 = x_st (x_goto 111) := rfl
theorem t130_128 (C : xF) (s n : Nat) (z : xS) : x_to q_k130 C s (n + 1) 128 z = x_nx q_k130 C s n ((x_st (x_goto 111)) C z) := x_to_at f130_128 C s n z
theorem f130_131 : x_fetch q_k130 131 = x_ldi 133 4 := rfl
theorem t130_131 (C : xF) (s n : Nat) (z : xS) : x_to q_k130 C s (n + 1) 131 z = x_nx q_k130 C s n ((x_ldi 133 4) C z) := x_to_at f130_131 C s n z
theorem f130_133 : x_fetch q_k130 133 = x_sti 135 5 := rfl
theorem t130_133 (C : xF) (s n : Nat) (z : xS) : x_to q_k130 C s (n + 1) 133 z = x_nx q_k130 C s n ((x_sti 135 5) C z) := x_to_at f130_133 C s n z
theorem f130_135 : x_fetch q_k130 135 = x_ldi 137 5 := rfl
theorem t130_135 (C : xF) (s n : Nat) (z : xS) : x_to q_k130 C s (n + 1) 135 z = x_nx q_k130 C s n ((x_ldi 137 5) C z) := x_to_at f130_135 C s n z
theorem f130_137 : x_fetch q_k130 137 = x_st (x_iflt 170 140) := rfl
theorem t130_137 (C : xF) (s n : Nat) (z : xS) : x_to q_k130 C s (n + 1) 137 z = x_nx q_k130 C s n ((x_st (x_iflt 170 140)) C z) := x_to_at f130_137 C s n z
theorem f130_140 : x_fetch q_k130 140 = x_lda 141 0 := rfl
theorem t130_140 (C : xF) (s n : Nat) (z : xS) : x_to q_k130 C s (n + 1) 140 z = x_nx q_k130 C s n ((x_lda 141 0) C z) := x_to_at f130_140 C s n z
theorem f130_141 : x_fetch q_k130 141 = x_gf 144 8 35 := rfl
theorem t130_141 (C : xF) (s n : Nat) (z : xS) : x_to q_k130 C s (n + 1) 141 z = x_nx q_k130 C s n ((x_gf 144 8 35) C z) := x_to_at f130_141 C s n z
theorem f130_144 : x_fetch q_k130 144 = x_ldi 146 5 := rfl
theorem t130_144 (C : xF) (s n : Nat) (z : xS) : x_to q_k130 C s (n + 1) 144 z = x_nx q_k130 C s n ((x_ldi 146 5) C z) := x_to_at f130_144 C s n z
theorem f130_146 : x_fetch q_k130 146 = x_ald 147 0 := rfl
theorem t130_146 (C : xF) (s n : Nat) (z : xS) : x_to q_k130 C s (n + 1) 146 z = x_nx q_k130 C s n ((x_ald 147 0) C z) := x_to_at f130_146 C s n z
theorem f130_147 : x_fetch q_k130 147 = x_lda 148 0 := rfl
theorem t130_147 (C : xF) (s n : Nat) (z : xS) : x_to q_k130 C s (n + 1) 147 z = x_nx q_k130 C s n ((x_lda 148 0) C z) := x_to_at f130_147 C s n z
theorem f130_148 : x_fetch q_k130 148 = x_gf 151 8 28 := rfl
theorem t130_148 (C : xF) (s n : Nat) (z : xS) : x_to q_k130 C s (n + 1) 148 z = x_nx q_k130 C s n ((x_gf 151 8 28) C z) := x_to_at f130_148 C s n z
theorem f130_151 : x_fetch q_k130 151 = x_st (x_push 152 (.int (1))) := rfl
theorem t130_151 (C : xF) (s n : Nat) (z : xS) : x_to q_k130 C s (n + 1) 151 z = x_nx q_k130 C s n ((x_st (x_push 152 (.int (1)))) C z) := x_to_at f130_151 C s n z
theorem f130_152 : x_fetch q_k130 152 = x_st (x_bin 153 (fun a b => a - b)) := rfl
theorem t130_152 (C : xF) (s n : Nat) (z : xS) : x_to q_k130 C s (n + 1) 152 z = x_nx q_k130 C s n ((x_st (x_bin 153 (fun a b => a - b))) C z) := x_to_at f130_152 C s n z
theorem f130_153 : x_fetch q_k130 153 = x_st (x_icne 170 156) := rfl
theorem t130_153 (C : xF) (s n : Nat) (z : xS) : x_to q_k130 C s (n + 1) 153 z = x_nx q_k130 C s n ((x_st (x_icne 170 156)) C z) := x_to_at f130_153 C s n z
set_option maxRecDepth 20000 in
theorem f130_156 : x_fetch q_k130 156 = x_lda 157 0 := rfl
theorem t130_156 (C : xF) (s n : Nat) (z : xS) : x_to q_k130 C s (n + 1) 156 z = x_nx q_k130 C s n ((x_lda 157 0) C z) := x_to_at f130_156 C s n z
set_option maxRecDepth 20000 in
theorem f130_157 : x_fetch q_k130 157 = x_gf 160 8 35 := rfl
theorem t130_157 (C : xF) (s n : Nat) (z : xS) : x_to q_k130 C s (n + 1) 157 z = x_nx q_k130 C s n ((x_gf 160 8 35) C z) := x_to_at f130_157 C s n z
set_option maxRecDepth 20000 in
theorem f130_160 : x_fetch q_k130 160 = x_ldi 162 5 := rfl
theorem t130_160 (C : xF) (s n : Nat) (z : xS) : x_to q_k130 C s (n + 1) 160 z = x_nx q_k130 C s n ((x_ldi 162 5) C z) := x_to_at f130_160 C s n z
set_option maxRecDepth 20000 in
theorem f130_162 : x_fetch q_k130 162 = x_st (x_push 163 (.int (0))) := rfl
theorem t130_162 (C : xF) (s n : Nat) (z : xS) : x_to q_k130 C s (n + 1) 162 z = x_nx q_k130 C s n ((x_st (x_push 163 (.int (0)))) C z) := x_to_at f130_162 C s n z
set_option maxRecDepth 20000 in
theorem f130_163 : x_fetch q_k130 163 = x_ast 164 0 (fun x => x) := rfl
theorem t130_163 (C : xF) (s n : Nat) (z : xS) : x_to q_k130 C s (n + 1) 163 z = x_nx q_k130 C s n ((x_ast 164 0 (fun x => x)) C z) := x_to_at f130_163 C s n z
set_option maxRecDepth 20000 in
theorem f130_164 : x_fetch q_k130 164 = x_iinc 167 5 (-1) := rfl
theorem t130_164 (C : xF) (s n : Nat) (z : xS) : x_to q_k130 C s (n + 1) 164 z = x_nx q_k130 C s n ((x_iinc 167 5 (-1)) C z) := x_to_at f130_164 C s n z
set_option maxRecDepth 20000 in
theorem f130_167 : x_fetch q_k130 167 = x_st (x_goto 135) := rfl
theorem t130_167 (C : xF) (s n : Nat) (z : xS) : x_to q_k130 C s (n + 1) 167 z = x_nx q_k130 C s n ((x_st (x_goto 135)) C z) := x_to_at f130_167 C s n z
set_option maxRecDepth 20000 in
theorem f130_170 : x_fetch q_k130 170 = x_ldi 172 5 := rfl
theorem t130_170 (C : xF) (s n : Nat) (z : xS) : x_to q_k130 C s (n + 1) 170 z = x_nx q_k130 C s n ((x_ldi 172 5) C z) := x_to_at f130_170 C s n z
set_option maxRecDepth 20000 in
theorem f130_172 : x_fetch q_k130 172 = x_st (x_iflt 179 175) := rfl
theorem t130_172 (C : xF) (s n : Nat) (z : xS) : x_to q_k130 C s (n + 1) 172 z = x_nx q_k130 C s n ((x_st (x_iflt 179 175)) C z) := x_to_at f130_172 C s n z
set_option maxRecDepth 20000 in
theorem f130_175 : x_fetch q_k130 175 = x_st (x_push 176 (.int (1))) := rfl
theorem t130_175 (C : xF) (s n : Nat) (z : xS) : x_to q_k130 C s (n + 1) 175 z = x_nx q_k130 C s n ((x_st (x_push 176 (.int (1)))) C z) := x_to_at f130_175 C s n z
set_option maxRecDepth 20000 in
theorem f130_176 : x_fetch q_k130 176 = x_st (x_goto 180) := rfl
theorem t130_176 (C : xF) (s n : Nat) (z : xS) : x_to q_k130 C s (n + 1) 176 z = x_nx q_k130 C s n ((x_st (x_goto 180)) C z) := x_to_at f130_176 C s n z
set_option maxRecDepth 20000 in
theorem f130_179 : x_fetch q_k130 179 = x_st (x_push 180 (.int (0))) := rfl
theorem t130_179 (C : xF) (s n : Nat) (z : xS) : x_to q_k130 C s (n + 1) 179 z = x_nx q_k130 C s n ((x_st (x_push 180 (.int (0)))) C z) := x_to_at f130_179 C s n z
set_option maxRecDepth 20000 in
theorem f130_180 : x_fetch q_k130 180 = x_sti 181 3 := rfl
theorem t130_180 (C : xF) (s n : Nat) (z : xS) : x_to q_k130 C s (n + 1) 180 z = x_nx q_k130 C s n ((x_sti 181 3) C z) := x_to_at f130_180 C s n z
set_option maxRecDepth 20000 in
theorem f130_181 : x_fetch q_k130 181 = x_ldi 182 3 := rfl
theorem t130_181 (C : xF) (s n : Nat) (z : xS) : x_to q_k130 C s (n + 1) 181 z = x_nx q_k130 C s n ((x_ldi 182 3) C z) := x_to_at f130_181 C s n z
set_option maxRecDepth 20000 in
theorem f130_182 : x_fetch q_k130 182 = x_st (x_ifeq 196 185) := rfl
theorem t130_182 (C : xF) (s n : Nat) (z : xS) : x_to q_k130 C s (n + 1) 182 z = x_nx q_k130 C s n ((x_st (x_ifeq 196 185)) C z) := x_to_at f130_182 C s n z
set_option maxRecDepth 20000 in
theorem f130_185 : x_fetch q_k130 185 = x_lda 186 0 := rfl
theorem t130_185 (C : xF) (s n : Nat) (z : xS) : x_to q_k130 C s (n + 1) 185 z = x_nx q_k130 C s n ((x_lda 186 0) C z) := x_to_at f130_185 C s n z
set_option maxRecDepth 20000 in
theorem f130_186 : x_fetch q_k130 186 = x_gf 189 8 35 := rfl
theorem t130_186 (C : xF) (s n : Nat) (z : xS) : x_to q_k130 C s (n + 1) 186 z = x_nx q_k130 C s n ((x_gf 189 8 35) C z) := x_to_at f130_186 C s n z
set_option maxRecDepth 20000 in
theorem f130_189 : x_fetch q_k130 189 = x_ldi 191 5 := rfl
theorem t130_189 (C : xF) (s n : Nat) (z : xS) : x_to q_k130 C s (n + 1) 189 z = x_nx q_k130 C s n ((x_ldi 191 5) C z) := x_to_at f130_189 C s n z
set_option maxRecDepth 20000 in
theorem f130_191 : x_fetch q_k130 191 = x_st (x_dup2 192) := rfl
theorem t130_191 (C : xF) (s n : Nat) (z : xS) : x_to q_k130 C s (n + 1) 191 z = x_nx q_k130 C s n ((x_st (x_dup2 192)) C z) := x_to_at f130_191 C s n z
set_option maxRecDepth 20000 in
theorem f130_192 : x_fetch q_k130 192 = x_ald 193 0 := rfl
theorem t130_192 (C : xF) (s n : Nat) (z : xS) : x_to q_k130 C s (n + 1) 192 z = x_nx q_k130 C s n ((x_ald 193 0) C z) := x_to_at f130_192 C s n z
set_option maxRecDepth 20000 in
theorem f130_193 : x_fetch q_k130 193 = x_st (x_push 194 (.int (1))) := rfl
theorem t130_193 (C : xF) (s n : Nat) (z : xS) : x_to q_k130 C s (n + 1) 193 z = x_nx q_k130 C s n ((x_st (x_push 194 (.int (1)))) C z) := x_to_at f130_193 C s n z
set_option maxRecDepth 20000 in
theorem f130_194 : x_fetch q_k130 194 = x_st (x_bin 195 (fun a b => a + b)) := rfl
theorem t130_194 (C : xF) (s n : Nat) (z : xS) : x_to q_k130 C s (n + 1) 194 z = x_nx q_k130 C s n ((x_st (x_bin 195 (fun a b => a + b))) C z) := x_to_at f130_194 C s n z
set_option maxRecDepth 20000 in
theorem f130_195 : x_fetch q_k130 195 = x_ast 196 0 (fun x => x) := rfl
theorem t130_195 (C : xF) (s n : Nat) (z : xS) : x_to q_k130 C s (n + 1) 195 z = x_nx q_k130 C s n ((x_ast 196 0 (fun x => x)) C z) := x_to_at f130_195 C s n z
set_option maxRecDepth 20000 in
theorem f130_196 : x_fetch q_k130 196 = x_st (x_goto 85) := rfl
theorem t130_196 (C : xF) (s n : Nat) (z : xS) : x_to q_k130 C s (n + 1) 196 z = x_nx q_k130 C s n ((x_st (x_goto 85)) C z) := x_to_at f130_196 C s n z
set_option maxRecDepth 20000 in
theorem f130_199 : x_fetch q_k130 199 = x_st (x_push 200 (.int (0))) := rfl
theorem t130_199 (C : xF) (s n : Nat) (z : xS) : x_to q_k130 C s (n + 1) 199 z = x_nx q_k130 C s n ((x_st (x_push 200 (.int (0)))) C z) := x_to_at f130_199 C s n z
set_option maxRecDepth 20000 in
theorem f130_200 : x_fetch q_k130 200 = x_ri (.boolean) := rfl
theorem t130_200 (C : xF) (s n : Nat) (z : xS) : x_to q_k130 C s (n + 1) 200 z = x_nx q_k130 C s n ((x_ri (.boolean)) C z) := x_to_at f130_200 C s n z
theorem carry {M : Nat} {cs : List Nat} {k : Nat} : ∀ (j : Nat), k ≤ j → j ≤ cs.length → (∀ i, k ≤ i → i < j → cs.getD i 0 + 1 = M) → (vl M (cs.take j) + 1) * M ^ (cs.length - j) = (vl M (cs.take k) + 1) * M ^ (cs.length - k)
  | 0, h, _, _ => by
    have : k = 0 := by omega
    subst this
    rfl
  | j + 1, h, hj, hd => by
    by_cases e : k = j + 1
    · rw [e]
    · have ih := carry j (by omega) (by omega) (fun i i0 i1 => hd i i0 (by omega))
      rw [← ih, vl_take (by omega), Nat.add_assoc, hd j (by omega) (by omega), show cs.length - j = (cs.length - (j + 1)) + 1 by omega, Nat.pow_succ, Nat.mul_comm (M ^ (cs.length - (j + 1))) M, ← Nat.mul_assoc, Nat.add_mul (vl M (cs.take j)) 1 M, Nat.one_mul]
theorem vl_up {M : Nat} {cs : List Nat} (hc : ∀ c ∈ cs, c < M) (j : Nat) : vl M cs < (vl M (cs.take j) + 1) * M ^ (cs.length - j) := by
  have e1 : cs = cs.take j ++ cs.drop j := (List.take_append_drop _ _).symm
  have v1 := vl_app (m := M) (cs.take j) (cs.drop j)
  rw [← e1, List.length_drop] at v1
  have b1 := vl_lt (m := M) (cs := cs.drop j) (fun x hx => hc x (List.mem_of_mem_drop hx))
  rw [List.length_drop] at b1
  rw [Nat.add_mul, Nat.one_mul]
  omega
theorem SPc.mv {x x' : Nat → List Int} {i : Int} {D E : List (Int × List Int)} (h : SPc x i D E) (e : ∀ j, j ≠ 46 → j ≠ 51 → x' j = x j) : SPc x' i D E := by
  unfold SPc
  rw [e 30 (by decide) (by decide), e 29 (by decide) (by decide), e 33 (by decide) (by decide), e 42 (by decide) (by decide), e 43 (by decide) (by decide), e 44 (by decide) (by decide), e 45 (by decide) (by decide)]
  exact h
section SP
variable {w : Nat → xC} {N : Nat} {m : Nat → Int} {x : Nat → List Int} {D E : List (Int × List Int)} {i : Int}
theorem l130_9 (d : Nat) {Cl T : List Int} (hN : 53 ≤ N) (hm : w 27 = .inr (8, mF m)) (h42 : w 42 = cI 0 Cl) (n42 : Cl.length = 60) (h43 : w 43 = cI 0 T) (n43 : T.length = 8) (e : Int) (he : gZ T (m 11) = e) (e0 : 0 ≤ m 11) (e1 : m 11 ≤ 7) (e9 : e ≤ 60) : ∀ (r : Nat) (k : Int) (Q : List Int) (lv : xL), Q.length = 160 → k + r = e → 0 ≤ k → c1 lv → x_lk lv 0 = some (.ref 30) → x_lk lv 2 = some (.int (iZ k)) → ∃ lv', c1 lv' ∧ (∀ j, j ≠ 2 → x_lk lv' j = x_lk lv j) ∧ ∀ res, Gx q_k130 d 43 (lv', [], hp (uH w 45 (cI 0 (cpl (88) (fun k => gZ Cl k) r k Q))) N) res →
    Gx q_k130 d 9 (lv, [], hp (uH w 45 (cI 0 Q)) N) res := by
  intro r
  induction r with
  | zero =>
    intro k Q lv hQ hk h0 hc l0 l1 
    refine ⟨lv, hc, fun _ _ => rfl, fun res hcont => ?_⟩
    refine Gx.run 60 Cs.tt (fun C _ => ?_) hcont
    have b1 : e ≤ k := by omega
    simp (disch := first | (refine c1_id ?_; assumption) | (refine c1_st rfl ?_; repeat (first | assumption | refine c1_st rfl ?_)) | omega) [nx_l, nx_r, nx_n, x_st, x_push, x_bin, x_div, x_un, x_dup, x_pop, x_dup2, x_goto, x_ifeq, x_ifne, x_iflt, x_ifge, x_ifgt, x_ifle, x_iceq, x_icne, x_iclt, x_icge, x_icgt, x_icle, x_ifnull, x_ifnonnull, x_ldi, x_lda, x_sti, x_sta, x_iinc, x_gf, x_pf, x_ald, x_ast, x_aln, x_len, x_cl_, x_cv, x_cs, x_rc, x_r0, x_isT, x_oi, x_rv, x_ri, x_ra, Value.category, t130_0, t130_1, t130_2, t130_3, t130_4, t130_7, t130_8, t130_9, t130_10, t130_11, t130_14, t130_15, t130_18, t130_19, t130_22, t130_23, t130_26, t130_28, t130_29, t130_30, t130_31, t130_34, t130_35, t130_36, t130_37, t130_40, t130_43, t130_44, t130_47, t130_48, t130_49, t130_50, t130_51, t130_54, t130_55, t130_58, t130_61, t130_62, t130_63, t130_64, t130_65, t130_66, t130_67, t130_70, t130_71, t130_74, t130_75, t130_76, t130_77, t130_80, t130_83, t130_84, t130_85, t130_86, t130_89, t130_90, t130_91, t130_92, t130_95, t130_97, t130_99, t130_100, t130_103, t130_104, t130_105, t130_107, t130_108, t130_109, t130_111, t130_113, t130_114, t130_117, t130_118, t130_121, t130_123, t130_124, t130_125, t130_128, t130_131, t130_133, t130_135, t130_137, t130_140, t130_141, t130_144, t130_146, t130_147, t130_148, t130_151, t130_152, t130_153, t130_156, t130_157, t130_160, t130_162, t130_163, t130_164, t130_167, t130_170, t130_172, t130_175, t130_176, t130_179, t130_180, t130_181, t130_182, t130_185, t130_186, t130_189, t130_191, t130_192, t130_193, t130_194, t130_195, t130_196, t130_199, t130_200, lk_s, hp_get, hp_set, uH_at, uH_ne, uH_upd, uH_swap, iZ_add, iZ_sub, iZ_mul, iZ_neg, iZ_lt, iZ_le, iZ_eq, iZ_div, iZ_of, ix_Z, gZ_map, gZ_mapI, gZ_map', le_0, le_s, sZ_map, sZ_len, bZ_0, bZ_inj, bZ_t, bZ_f, nr_i, nr_0, nr_1, nr_b, ft_i, ft_b, ft_0, ft_1, zl_0, zl_1, zl_88, mF_len, mg_0, mg_1, mg_2, mg_3, mg_4, mg_5, mg_6, mg_7, mg_8, mg_9, mg_10, mg_11, mg_12, mg_13, mg_14, mg_15, mg_16, mg_17, mg_18, mg_19, mg_20, mg_21, mg_22, mg_23, mg_24, mg_25, mg_26, mg_27, mg_28, mg_29, mg_30, mg_31, mg_32, mg_33, mg_34, mg_35, mg_36, mg_37, mg_38, ms_0, ms_1, ms_2, ms_13, ms_14, ms_15, ms_16, ms_21, ms_22, ms_23, ms_24, ms_28, ms_36, ms_37, ms_38, st_at, st_ne, st_st, st_swap, l0, l1, hm, h42, h43, he, b1, cpl, -List.filter_filter, -List.getElem?_map, -List.getD_eq_getElem?_getD]
  | succ r ih =>
    intro k Q lv hQ hk h0 hc l0 l1 
    obtain ⟨lv', h1, h2, h3⟩ := ih (k + 1) (sZ Q (88 + k) ((fun k => gZ Cl k) k)) (((2 : Nat), .int (iZ (k + 1))) :: List.filter (x_keep 2) lv) (by rw [sZ_len]; exact hQ) (by omega) (by omega) (c1_st rfl hc) (by rw [lk_s hc]; exact l0) (by rw [lk_s hc]; rfl) 
    refine ⟨lv', h1, fun j hj => by rw [h2 j hj, lk_s hc, if_neg (Ne.symm hj)], fun res hcont => ?_⟩
    refine Gx.run 60 Cs.tt (fun C _ => ?_) (h3 res hcont)
    have b1 : ¬ e ≤ k := by omega
    simp (disch := first | (refine c1_id ?_; assumption) | (refine c1_st rfl ?_; repeat (first | assumption | refine c1_st rfl ?_)) | omega) [nx_l, nx_r, nx_n, x_st, x_push, x_bin, x_div, x_un, x_dup, x_pop, x_dup2, x_goto, x_ifeq, x_ifne, x_iflt, x_ifge, x_ifgt, x_ifle, x_iceq, x_icne, x_iclt, x_icge, x_icgt, x_icle, x_ifnull, x_ifnonnull, x_ldi, x_lda, x_sti, x_sta, x_iinc, x_gf, x_pf, x_ald, x_ast, x_aln, x_len, x_cl_, x_cv, x_cs, x_rc, x_r0, x_isT, x_oi, x_rv, x_ri, x_ra, Value.category, t130_0, t130_1, t130_2, t130_3, t130_4, t130_7, t130_8, t130_9, t130_10, t130_11, t130_14, t130_15, t130_18, t130_19, t130_22, t130_23, t130_26, t130_28, t130_29, t130_30, t130_31, t130_34, t130_35, t130_36, t130_37, t130_40, t130_43, t130_44, t130_47, t130_48, t130_49, t130_50, t130_51, t130_54, t130_55, t130_58, t130_61, t130_62, t130_63, t130_64, t130_65, t130_66, t130_67, t130_70, t130_71, t130_74, t130_75, t130_76, t130_77, t130_80, t130_83, t130_84, t130_85, t130_86, t130_89, t130_90, t130_91, t130_92, t130_95, t130_97, t130_99, t130_100, t130_103, t130_104, t130_105, t130_107, t130_108, t130_109, t130_111, t130_113, t130_114, t130_117, t130_118, t130_121, t130_123, t130_124, t130_125, t130_128, t130_131, t130_133, t130_135, t130_137, t130_140, t130_141, t130_144, t130_146, t130_147, t130_148, t130_151, t130_152, t130_153, t130_156, t130_157, t130_160, t130_162, t130_163, t130_164, t130_167, t130_170, t130_172, t130_175, t130_176, t130_179, t130_180, t130_181, t130_182, t130_185, t130_186, t130_189, t130_191, t130_192, t130_193, t130_194, t130_195, t130_196, t130_199, t130_200, lk_s, hp_get, hp_set, uH_at, uH_ne, uH_upd, uH_swap, iZ_add, iZ_sub, iZ_mul, iZ_neg, iZ_lt, iZ_le, iZ_eq, iZ_div, iZ_of, ix_Z, gZ_map, gZ_mapI, gZ_map', le_0, le_s, sZ_map, sZ_len, bZ_0, bZ_inj, bZ_t, bZ_f, nr_i, nr_0, nr_1, nr_b, ft_i, ft_b, ft_0, ft_1, zl_0, zl_1, zl_88, mF_len, mg_0, mg_1, mg_2, mg_3, mg_4, mg_5, mg_6, mg_7, mg_8, mg_9, mg_10, mg_11, mg_12, mg_13, mg_14, mg_15, mg_16, mg_17, mg_18, mg_19, mg_20, mg_21, mg_22, mg_23, mg_24, mg_25, mg_26, mg_27, mg_28, mg_29, mg_30, mg_31, mg_32, mg_33, mg_34, mg_35, mg_36, mg_37, mg_38, ms_0, ms_1, ms_2, ms_13, ms_14, ms_15, ms_16, ms_21, ms_22, ms_23, ms_24, ms_28, ms_36, ms_37, ms_38, st_at, st_ne, st_st, st_swap, l0, l1, hm, h42, h43, he, b1, -List.filter_filter, -List.getElem?_map, -List.getD_eq_getElem?_getD]

theorem l130_65 (d : Nat) (hN : 53 ≤ N) (hm : w 27 = .inr (8, mF m)) (n : Int) (n9 : n ≤ 6) : ∀ (r : Nat) (k : Int) (Q : List Int) (lv : xL), Q.length = 6 → k + r = n → 0 ≤ k → c1 lv → x_lk lv 0 = some (.ref 30) → x_lk lv 3 = some (.int (iZ k)) → x_lk lv 2 = some (.int (iZ n)) → ∃ lv', c1 lv' ∧ (∀ j, j ≠ 3 → x_lk lv' j = x_lk lv j) ∧ ∀ res, Gx q_k130 d 83 (lv', [], hp (uH w 51 (cI 0 (cpl (0) (fun _ => 0) r k Q))) N) res →
    Gx q_k130 d 65 (lv, [], hp (uH w 51 (cI 0 Q)) N) res := by
  intro r
  induction r with
  | zero =>
    intro k Q lv hQ hk h0 hc l0 l1 q2
    refine ⟨lv, hc, fun _ _ => rfl, fun res hcont => ?_⟩
    refine Gx.run 60 Cs.tt (fun C _ => ?_) hcont
    have b1 : n ≤ k := by omega
    simp (disch := first | (refine c1_id ?_; assumption) | (refine c1_st rfl ?_; repeat (first | assumption | refine c1_st rfl ?_)) | omega) [nx_l, nx_r, nx_n, x_st, x_push, x_bin, x_div, x_un, x_dup, x_pop, x_dup2, x_goto, x_ifeq, x_ifne, x_iflt, x_ifge, x_ifgt, x_ifle, x_iceq, x_icne, x_iclt, x_icge, x_icgt, x_icle, x_ifnull, x_ifnonnull, x_ldi, x_lda, x_sti, x_sta, x_iinc, x_gf, x_pf, x_ald, x_ast, x_aln, x_len, x_cl_, x_cv, x_cs, x_rc, x_r0, x_isT, x_oi, x_rv, x_ri, x_ra, Value.category, t130_0, t130_1, t130_2, t130_3, t130_4, t130_7, t130_8, t130_9, t130_10, t130_11, t130_14, t130_15, t130_18, t130_19, t130_22, t130_23, t130_26, t130_28, t130_29, t130_30, t130_31, t130_34, t130_35, t130_36, t130_37, t130_40, t130_43, t130_44, t130_47, t130_48, t130_49, t130_50, t130_51, t130_54, t130_55, t130_58, t130_61, t130_62, t130_63, t130_64, t130_65, t130_66, t130_67, t130_70, t130_71, t130_74, t130_75, t130_76, t130_77, t130_80, t130_83, t130_84, t130_85, t130_86, t130_89, t130_90, t130_91, t130_92, t130_95, t130_97, t130_99, t130_100, t130_103, t130_104, t130_105, t130_107, t130_108, t130_109, t130_111, t130_113, t130_114, t130_117, t130_118, t130_121, t130_123, t130_124, t130_125, t130_128, t130_131, t130_133, t130_135, t130_137, t130_140, t130_141, t130_144, t130_146, t130_147, t130_148, t130_151, t130_152, t130_153, t130_156, t130_157, t130_160, t130_162, t130_163, t130_164, t130_167, t130_170, t130_172, t130_175, t130_176, t130_179, t130_180, t130_181, t130_182, t130_185, t130_186, t130_189, t130_191, t130_192, t130_193, t130_194, t130_195, t130_196, t130_199, t130_200, lk_s, hp_get, hp_set, uH_at, uH_ne, uH_upd, uH_swap, iZ_add, iZ_sub, iZ_mul, iZ_neg, iZ_lt, iZ_le, iZ_eq, iZ_div, iZ_of, ix_Z, gZ_map, gZ_mapI, gZ_map', le_0, le_s, sZ_map, sZ_len, bZ_0, bZ_inj, bZ_t, bZ_f, nr_i, nr_0, nr_1, nr_b, ft_i, ft_b, ft_0, ft_1, zl_0, zl_1, zl_88, mF_len, mg_0, mg_1, mg_2, mg_3, mg_4, mg_5, mg_6, mg_7, mg_8, mg_9, mg_10, mg_11, mg_12, mg_13, mg_14, mg_15, mg_16, mg_17, mg_18, mg_19, mg_20, mg_21, mg_22, mg_23, mg_24, mg_25, mg_26, mg_27, mg_28, mg_29, mg_30, mg_31, mg_32, mg_33, mg_34, mg_35, mg_36, mg_37, mg_38, ms_0, ms_1, ms_2, ms_13, ms_14, ms_15, ms_16, ms_21, ms_22, ms_23, ms_24, ms_28, ms_36, ms_37, ms_38, st_at, st_ne, st_st, st_swap, l0, l1, q2, hm, b1, cpl, -List.filter_filter, -List.getElem?_map, -List.getD_eq_getElem?_getD]
  | succ r ih =>
    intro k Q lv hQ hk h0 hc l0 l1 q2
    obtain ⟨lv', h1, h2, h3⟩ := ih (k + 1) (sZ Q (0 + k) ((fun _ => 0) k)) (((3 : Nat), .int (iZ (k + 1))) :: List.filter (x_keep 3) lv) (by rw [sZ_len]; exact hQ) (by omega) (by omega) (c1_st rfl hc) (by rw [lk_s hc]; exact l0) (by rw [lk_s hc]; rfl) (by rw [lk_s hc]; exact q2) 
    refine ⟨lv', h1, fun j hj => by rw [h2 j hj, lk_s hc, if_neg (Ne.symm hj)], fun res hcont => ?_⟩
    refine Gx.run 60 Cs.tt (fun C _ => ?_) (h3 res hcont)
    have b1 : ¬ n ≤ k := by omega
    simp (disch := first | (refine c1_id ?_; assumption) | (refine c1_st rfl ?_; repeat (first | assumption | refine c1_st rfl ?_)) | omega) [nx_l, nx_r, nx_n, x_st, x_push, x_bin, x_div, x_un, x_dup, x_pop, x_dup2, x_goto, x_ifeq, x_ifne, x_iflt, x_ifge, x_ifgt, x_ifle, x_iceq, x_icne, x_iclt, x_icge, x_icgt, x_icle, x_ifnull, x_ifnonnull, x_ldi, x_lda, x_sti, x_sta, x_iinc, x_gf, x_pf, x_ald, x_ast, x_aln, x_len, x_cl_, x_cv, x_cs, x_rc, x_r0, x_isT, x_oi, x_rv, x_ri, x_ra, Value.category, t130_0, t130_1, t130_2, t130_3, t130_4, t130_7, t130_8, t130_9, t130_10, t130_11, t130_14, t130_15, t130_18, t130_19, t130_22, t130_23, t130_26, t130_28, t130_29, t130_30, t130_31, t130_34, t130_35, t130_36, t130_37, t130_40, t130_43, t130_44, t130_47, t130_48, t130_49, t130_50, t130_51, t130_54, t130_55, t130_58, t130_61, t130_62, t130_63, t130_64, t130_65, t130_66, t130_67, t130_70, t130_71, t130_74, t130_75, t130_76, t130_77, t130_80, t130_83, t130_84, t130_85, t130_86, t130_89, t130_90, t130_91, t130_92, t130_95, t130_97, t130_99, t130_100, t130_103, t130_104, t130_105, t130_107, t130_108, t130_109, t130_111, t130_113, t130_114, t130_117, t130_118, t130_121, t130_123, t130_124, t130_125, t130_128, t130_131, t130_133, t130_135, t130_137, t130_140, t130_141, t130_144, t130_146, t130_147, t130_148, t130_151, t130_152, t130_153, t130_156, t130_157, t130_160, t130_162, t130_163, t130_164, t130_167, t130_170, t130_172, t130_175, t130_176, t130_179, t130_180, t130_181, t130_182, t130_185, t130_186, t130_189, t130_191, t130_192, t130_193, t130_194, t130_195, t130_196, t130_199, t130_200, lk_s, hp_get, hp_set, uH_at, uH_ne, uH_upd, uH_swap, iZ_add, iZ_sub, iZ_mul, iZ_neg, iZ_lt, iZ_le, iZ_eq, iZ_div, iZ_of, ix_Z, gZ_map, gZ_mapI, gZ_map', le_0, le_s, sZ_map, sZ_len, bZ_0, bZ_inj, bZ_t, bZ_f, nr_i, nr_0, nr_1, nr_b, ft_i, ft_b, ft_0, ft_1, zl_0, zl_1, zl_88, mF_len, mg_0, mg_1, mg_2, mg_3, mg_4, mg_5, mg_6, mg_7, mg_8, mg_9, mg_10, mg_11, mg_12, mg_13, mg_14, mg_15, mg_16, mg_17, mg_18, mg_19, mg_20, mg_21, mg_22, mg_23, mg_24, mg_25, mg_26, mg_27, mg_28, mg_29, mg_30, mg_31, mg_32, mg_33, mg_34, mg_35, mg_36, mg_37, mg_38, ms_0, ms_1, ms_2, ms_13, ms_14, ms_15, ms_16, ms_21, ms_22, ms_23, ms_24, ms_28, ms_36, ms_37, ms_38, st_at, st_ne, st_st, st_swap, l0, l1, q2, hm, b1, -List.filter_filter, -List.getElem?_map, -List.getD_eq_getElem?_getD]

theorem l130_111 (d : Nat) (hN : 53 ≤ N) (hm : w 27 = .inr (8, mF m)) (n : Int) (n9 : n ≤ 6) : ∀ (r : Nat) (k : Int) (Q : List Int) (lv : xL), Q.length = 6 → k + r = n → 0 ≤ k → c1 lv → x_lk lv 0 = some (.ref 30) → x_lk lv 5 = some (.int (iZ k)) → x_lk lv 2 = some (.int (iZ n)) → ∃ lv', c1 lv' ∧ (∀ j, j ≠ 5 → x_lk lv' j = x_lk lv j) ∧ ∀ res, Gx q_k130 d 131 (lv', [], hp (uH w 51 (cI 0 (cpl (0) (fun _ => 0) r k Q))) N) res →
    Gx q_k130 d 111 (lv, [], hp (uH w 51 (cI 0 Q)) N) res := by
  intro r
  induction r with
  | zero =>
    intro k Q lv hQ hk h0 hc l0 l1 q2
    refine ⟨lv, hc, fun _ _ => rfl, fun res hcont => ?_⟩
    refine Gx.run 60 Cs.tt (fun C _ => ?_) hcont
    have b1 : n ≤ k := by omega
    simp (disch := first | (refine c1_id ?_; assumption) | (refine c1_st rfl ?_; repeat (first | assumption | refine c1_st rfl ?_)) | omega) [nx_l, nx_r, nx_n, x_st, x_push, x_bin, x_div, x_un, x_dup, x_pop, x_dup2, x_goto, x_ifeq, x_ifne, x_iflt, x_ifge, x_ifgt, x_ifle, x_iceq, x_icne, x_iclt, x_icge, x_icgt, x_icle, x_ifnull, x_ifnonnull, x_ldi, x_lda, x_sti, x_sta, x_iinc, x_gf, x_pf, x_ald, x_ast, x_aln, x_len, x_cl_, x_cv, x_cs, x_rc, x_r0, x_isT, x_oi, x_rv, x_ri, x_ra, Value.category, t130_0, t130_1, t130_2, t130_3, t130_4, t130_7, t130_8, t130_9, t130_10, t130_11, t130_14, t130_15, t130_18, t130_19, t130_22, t130_23, t130_26, t130_28, t130_29, t130_30, t130_31, t130_34, t130_35, t130_36, t130_37, t130_40, t130_43, t130_44, t130_47, t130_48, t130_49, t130_50, t130_51, t130_54, t130_55, t130_58, t130_61, t130_62, t130_63, t130_64, t130_65, t130_66, t130_67, t130_70, t130_71, t130_74, t130_75, t130_76, t130_77, t130_80, t130_83, t130_84, t130_85, t130_86, t130_89, t130_90, t130_91, t130_92, t130_95, t130_97, t130_99, t130_100, t130_103, t130_104, t130_105, t130_107, t130_108, t130_109, t130_111, t130_113, t130_114, t130_117, t130_118, t130_121, t130_123, t130_124, t130_125, t130_128, t130_131, t130_133, t130_135, t130_137, t130_140, t130_141, t130_144, t130_146, t130_147, t130_148, t130_151, t130_152, t130_153, t130_156, t130_157, t130_160, t130_162, t130_163, t130_164, t130_167, t130_170, t130_172, t130_175, t130_176, t130_179, t130_180, t130_181, t130_182, t130_185, t130_186, t130_189, t130_191, t130_192, t130_193, t130_194, t130_195, t130_196, t130_199, t130_200, lk_s, hp_get, hp_set, uH_at, uH_ne, uH_upd, uH_swap, iZ_add, iZ_sub, iZ_mul, iZ_neg, iZ_lt, iZ_le, iZ_eq, iZ_div, iZ_of, ix_Z, gZ_map, gZ_mapI, gZ_map', le_0, le_s, sZ_map, sZ_len, bZ_0, bZ_inj, bZ_t, bZ_f, nr_i, nr_0, nr_1, nr_b, ft_i, ft_b, ft_0, ft_1, zl_0, zl_1, zl_88, mF_len, mg_0, mg_1, mg_2, mg_3, mg_4, mg_5, mg_6, mg_7, mg_8, mg_9, mg_10, mg_11, mg_12, mg_13, mg_14, mg_15, mg_16, mg_17, mg_18, mg_19, mg_20, mg_21, mg_22, mg_23, mg_24, mg_25, mg_26, mg_27, mg_28, mg_29, mg_30, mg_31, mg_32, mg_33, mg_34, mg_35, mg_36, mg_37, mg_38, ms_0, ms_1, ms_2, ms_13, ms_14, ms_15, ms_16, ms_21, ms_22, ms_23, ms_24, ms_28, ms_36, ms_37, ms_38, st_at, st_ne, st_st, st_swap, l0, l1, q2, hm, b1, cpl, -List.filter_filter, -List.getElem?_map, -List.getD_eq_getElem?_getD]
  | succ r ih =>
    intro k Q lv hQ hk h0 hc l0 l1 q2
    obtain ⟨lv', h1, h2, h3⟩ := ih (k + 1) (sZ Q (0 + k) ((fun _ => 0) k)) (((5 : Nat), .int (iZ (k + 1))) :: List.filter (x_keep 5) lv) (by rw [sZ_len]; exact hQ) (by omega) (by omega) (c1_st rfl hc) (by rw [lk_s hc]; exact l0) (by rw [lk_s hc]; rfl) (by rw [lk_s hc]; exact q2) 
    refine ⟨lv', h1, fun j hj => by rw [h2 j hj, lk_s hc, if_neg (Ne.symm hj)], fun res hcont => ?_⟩
    refine Gx.run 60 Cs.tt (fun C _ => ?_) (h3 res hcont)
    have b1 : ¬ n ≤ k := by omega
    simp (disch := first | (refine c1_id ?_; assumption) | (refine c1_st rfl ?_; repeat (first | assumption | refine c1_st rfl ?_)) | omega) [nx_l, nx_r, nx_n, x_st, x_push, x_bin, x_div, x_un, x_dup, x_pop, x_dup2, x_goto, x_ifeq, x_ifne, x_iflt, x_ifge, x_ifgt, x_ifle, x_iceq, x_icne, x_iclt, x_icge, x_icgt, x_icle, x_ifnull, x_ifnonnull, x_ldi, x_lda, x_sti, x_sta, x_iinc, x_gf, x_pf, x_ald, x_ast, x_aln, x_len, x_cl_, x_cv, x_cs, x_rc, x_r0, x_isT, x_oi, x_rv, x_ri, x_ra, Value.category, t130_0, t130_1, t130_2, t130_3, t130_4, t130_7, t130_8, t130_9, t130_10, t130_11, t130_14, t130_15, t130_18, t130_19, t130_22, t130_23, t130_26, t130_28, t130_29, t130_30, t130_31, t130_34, t130_35, t130_36, t130_37, t130_40, t130_43, t130_44, t130_47, t130_48, t130_49, t130_50, t130_51, t130_54, t130_55, t130_58, t130_61, t130_62, t130_63, t130_64, t130_65, t130_66, t130_67, t130_70, t130_71, t130_74, t130_75, t130_76, t130_77, t130_80, t130_83, t130_84, t130_85, t130_86, t130_89, t130_90, t130_91, t130_92, t130_95, t130_97, t130_99, t130_100, t130_103, t130_104, t130_105, t130_107, t130_108, t130_109, t130_111, t130_113, t130_114, t130_117, t130_118, t130_121, t130_123, t130_124, t130_125, t130_128, t130_131, t130_133, t130_135, t130_137, t130_140, t130_141, t130_144, t130_146, t130_147, t130_148, t130_151, t130_152, t130_153, t130_156, t130_157, t130_160, t130_162, t130_163, t130_164, t130_167, t130_170, t130_172, t130_175, t130_176, t130_179, t130_180, t130_181, t130_182, t130_185, t130_186, t130_189, t130_191, t130_192, t130_193, t130_194, t130_195, t130_196, t130_199, t130_200, lk_s, hp_get, hp_set, uH_at, uH_ne, uH_upd, uH_swap, iZ_add, iZ_sub, iZ_mul, iZ_neg, iZ_lt, iZ_le, iZ_eq, iZ_div, iZ_of, ix_Z, gZ_map, gZ_mapI, gZ_map', le_0, le_s, sZ_map, sZ_len, bZ_0, bZ_inj, bZ_t, bZ_f, nr_i, nr_0, nr_1, nr_b, ft_i, ft_b, ft_0, ft_1, zl_0, zl_1, zl_88, mF_len, mg_0, mg_1, mg_2, mg_3, mg_4, mg_5, mg_6, mg_7, mg_8, mg_9, mg_10, mg_11, mg_12, mg_13, mg_14, mg_15, mg_16, mg_17, mg_18, mg_19, mg_20, mg_21, mg_22, mg_23, mg_24, mg_25, mg_26, mg_27, mg_28, mg_29, mg_30, mg_31, mg_32, mg_33, mg_34, mg_35, mg_36, mg_37, mg_38, ms_0, ms_1, ms_2, ms_13, ms_14, ms_15, ms_16, ms_21, ms_22, ms_23, ms_24, ms_28, ms_36, ms_37, ms_38, st_at, st_ne, st_st, st_swap, l0, l1, q2, hm, b1, -List.filter_filter, -List.getElem?_map, -List.getD_eq_getElem?_getD]

theorem l130_135 (d : Nat) (hN : 53 ≤ N) (hm : w 27 = .inr (8, mF m)) (cs : List Nat) (n : Nat) (hn : cs.length = n) (n9 : n ≤ 6) (M : Nat) (M9 : M ≤ 6) (hM : ∀ c ∈ cs, c < M) (e11 : m 11 = M) : ∀ (r : Nat) (Q : List Int) (lv : xL), r ≤ n → Q.length = 6 → (∀ j : Nat, j < r → gZ Q j = cs.getD j 0) → (∀ j : Nat, r ≤ j → j < n → gZ Q j = 0) → c1 lv → x_lk lv 0 = some (.ref 30) → x_lk lv 5 = some (.int (iZ ((r : Int) - 1))) → ∃ (k' : Nat) (Q' : List Int) (lv' : xL), k' ≤ r ∧ (∀ j, k' ≤ j → j < r → cs.getD j 0 + 1 = M) ∧ (k' = 0 ∨ cs.getD (k' - 1) 0 + 1 ≠ M) ∧ Q'.length = 6 ∧ (∀ j : Nat, j < k' → gZ Q' j = cs.getD j 0) ∧ (∀ j : Nat, k' ≤ j → j < n → gZ Q' j = 0) ∧ c1 lv' ∧ (∀ j, j ≠ 5 → x_lk lv' j = x_lk lv j) ∧ x_lk lv' 5 = some (.int (iZ ((k' : Int) - 1))) ∧ ∀ res, Gx q_k130 d 170 (lv', [], hp (uH w 51 (cI 0 Q')) N) res → Gx q_k130 d 135 (lv, [], hp (uH w 51 (cI 0 Q)) N) res := by
  intro r
  induction r with
  | zero =>
    intro Q lv hr hQ h1 h2 hc l0 l5
    refine ⟨0, Q, lv, Nat.le_refl _, fun j j0 j1 => by omega, Or.inl rfl, hQ, h1, h2, hc, fun _ _ => rfl, l5, fun res hg => Gx.run 20 Cs.tt (fun K _ => ?_) hg⟩
    have l5' : x_lk lv 5 = some (.int (iZ (-1))) := l5
    simp (disch := first | (refine c1_id ?_; assumption) | (refine c1_st rfl ?_; repeat (first | assumption | refine c1_st rfl ?_)) | omega) [nx_l, nx_r, nx_n, x_st, x_push, x_bin, x_div, x_un, x_dup, x_pop, x_dup2, x_goto, x_ifeq, x_ifne, x_iflt, x_ifge, x_ifgt, x_ifle, x_iceq, x_icne, x_iclt, x_icge, x_icgt, x_icle, x_ifnull, x_ifnonnull, x_ldi, x_lda, x_sti, x_sta, x_iinc, x_gf, x_pf, x_ald, x_ast, x_aln, x_len, x_cl_, x_cv, x_cs, x_rc, x_r0, x_isT, x_oi, x_rv, x_ri, x_ra, Value.category, t130_0, t130_1, t130_2, t130_3, t130_4, t130_7, t130_8, t130_9, t130_10, t130_11, t130_14, t130_15, t130_18, t130_19, t130_22, t130_23, t130_26, t130_28, t130_29, t130_30, t130_31, t130_34, t130_35, t130_36, t130_37, t130_40, t130_43, t130_44, t130_47, t130_48, t130_49, t130_50, t130_51, t130_54, t130_55, t130_58, t130_61, t130_62, t130_63, t130_64, t130_65, t130_66, t130_67, t130_70, t130_71, t130_74, t130_75, t130_76, t130_77, t130_80, t130_83, t130_84, t130_85, t130_86, t130_89, t130_90, t130_91, t130_92, t130_95, t130_97, t130_99, t130_100, t130_103, t130_104, t130_105, t130_107, t130_108, t130_109, t130_111, t130_113, t130_114, t130_117, t130_118, t130_121, t130_123, t130_124, t130_125, t130_128, t130_131, t130_133, t130_135, t130_137, t130_140, t130_141, t130_144, t130_146, t130_147, t130_148, t130_151, t130_152, t130_153, t130_156, t130_157, t130_160, t130_162, t130_163, t130_164, t130_167, t130_170, t130_172, t130_175, t130_176, t130_179, t130_180, t130_181, t130_182, t130_185, t130_186, t130_189, t130_191, t130_192, t130_193, t130_194, t130_195, t130_196, t130_199, t130_200, lk_s, hp_get, hp_set, uH_at, uH_ne, uH_upd, uH_swap, iZ_add, iZ_sub, iZ_mul, iZ_neg, iZ_lt, iZ_le, iZ_eq, iZ_div, iZ_of, ix_Z, gZ_map, gZ_mapI, gZ_map', le_0, le_s, sZ_map, sZ_len, bZ_0, bZ_inj, bZ_t, bZ_f, nr_i, nr_0, nr_1, nr_b, ft_i, ft_b, ft_0, ft_1, zl_0, zl_1, zl_88, mF_len, mg_0, mg_1, mg_2, mg_3, mg_4, mg_5, mg_6, mg_7, mg_8, mg_9, mg_10, mg_11, mg_12, mg_13, mg_14, mg_15, mg_16, mg_17, mg_18, mg_19, mg_20, mg_21, mg_22, mg_23, mg_24, mg_25, mg_26, mg_27, mg_28, mg_29, mg_30, mg_31, mg_32, mg_33, mg_34, mg_35, mg_36, mg_37, mg_38, ms_0, ms_1, ms_2, ms_13, ms_14, ms_15, ms_16, ms_21, ms_22, ms_23, ms_24, ms_28, ms_36, ms_37, ms_38, st_at, st_ne, st_st, st_swap, l0, l5', -List.filter_filter, -List.getElem?_map, -List.getD_eq_getElem?_getD]
  | succ r ih =>
    intro Q lv hr hQ h1 h2 hc l0 l5
    rw [show ((r + 1 : Nat) : Int) - 1 = (r : Int) by omega] at l5
    have b1 : ¬ (r : Int) < 0 := by omega
    have hd := h1 r (by omega)
    have dl := getD_lt hM (show r < cs.length by omega)
    obtain ⟨dg, hdg⟩ : ∃ dg : Nat, dg = cs.getD r 0 := ⟨_, rfl⟩
    rw [← hdg] at hd dl
    by_cases e : dg + 1 = M
    · obtain ⟨k', Q', lv', a1, a2, a3, a4, a5, a6, a7, a8, a9, a10⟩ := ih (sZ Q r 0) ((5, .int (iZ ((r : Int) - 1))) :: lv.filter (x_keep 5)) (by omega) (by rw [sZ_len]; exact hQ) (fun j hj => by rw [gZ_sZ (by omega) (by omega) (by omega), if_neg (by omega)]; exact h1 j (by omega)) (fun j j0 j1 => by
        rw [gZ_sZ (by omega) (by omega) (by omega)]
        by_cases ej : (r : Int) = (j : Int)
        · rw [if_pos ej]
        · rw [if_neg ej]
          exact h2 j (by omega) j1) (c1_st rfl hc) (by rw [lk_s hc]; exact l0) (by rw [lk_s hc]; rfl)
      refine ⟨k', Q', lv', by omega, fun j j0 j1 => ?_, a3, a4, a5, a6, a7, fun j hj => by rw [a8 j hj, lk_s hc, if_neg (Ne.symm hj)], a9, fun res hg => Gx.run 60 Cs.tt (fun K _ => ?_) (a10 res hg)⟩
      · by_cases ej : j = r
        · rw [ej, ← hdg]
          exact e
        · exact a2 j j0 (by omega)
      · have c1' := eq_true (show (dg : Int) = (M : Int) - 1 by omega)
        have c2' : (r : Int) + -1 = (r : Int) - 1 := by omega
        have mr : (M : Int) ≤ 6 := by omega
        have m0 : (0 : Int) ≤ M := by omega
        have dr : (dg : Int) < 6 := by omega
        have d0 : (0 : Int) ≤ dg := by omega
        simp (disch := first | (refine c1_id ?_; assumption) | (refine c1_st rfl ?_; repeat (first | assumption | refine c1_st rfl ?_)) | omega) [nx_l, nx_r, nx_n, x_st, x_push, x_bin, x_div, x_un, x_dup, x_pop, x_dup2, x_goto, x_ifeq, x_ifne, x_iflt, x_ifge, x_ifgt, x_ifle, x_iceq, x_icne, x_iclt, x_icge, x_icgt, x_icle, x_ifnull, x_ifnonnull, x_ldi, x_lda, x_sti, x_sta, x_iinc, x_gf, x_pf, x_ald, x_ast, x_aln, x_len, x_cl_, x_cv, x_cs, x_rc, x_r0, x_isT, x_oi, x_rv, x_ri, x_ra, Value.category, t130_0, t130_1, t130_2, t130_3, t130_4, t130_7, t130_8, t130_9, t130_10, t130_11, t130_14, t130_15, t130_18, t130_19, t130_22, t130_23, t130_26, t130_28, t130_29, t130_30, t130_31, t130_34, t130_35, t130_36, t130_37, t130_40, t130_43, t130_44, t130_47, t130_48, t130_49, t130_50, t130_51, t130_54, t130_55, t130_58, t130_61, t130_62, t130_63, t130_64, t130_65, t130_66, t130_67, t130_70, t130_71, t130_74, t130_75, t130_76, t130_77, t130_80, t130_83, t130_84, t130_85, t130_86, t130_89, t130_90, t130_91, t130_92, t130_95, t130_97, t130_99, t130_100, t130_103, t130_104, t130_105, t130_107, t130_108, t130_109, t130_111, t130_113, t130_114, t130_117, t130_118, t130_121, t130_123, t130_124, t130_125, t130_128, t130_131, t130_133, t130_135, t130_137, t130_140, t130_141, t130_144, t130_146, t130_147, t130_148, t130_151, t130_152, t130_153, t130_156, t130_157, t130_160, t130_162, t130_163, t130_164, t130_167, t130_170, t130_172, t130_175, t130_176, t130_179, t130_180, t130_181, t130_182, t130_185, t130_186, t130_189, t130_191, t130_192, t130_193, t130_194, t130_195, t130_196, t130_199, t130_200, lk_s, hp_get, hp_set, uH_at, uH_ne, uH_upd, uH_swap, iZ_add, iZ_sub, iZ_mul, iZ_neg, iZ_lt, iZ_le, iZ_eq, iZ_div, iZ_of, ix_Z, gZ_map, gZ_mapI, gZ_map', le_0, le_s, sZ_map, sZ_len, bZ_0, bZ_inj, bZ_t, bZ_f, nr_i, nr_0, nr_1, nr_b, ft_i, ft_b, ft_0, ft_1, zl_0, zl_1, zl_88, mF_len, mg_0, mg_1, mg_2, mg_3, mg_4, mg_5, mg_6, mg_7, mg_8, mg_9, mg_10, mg_11, mg_12, mg_13, mg_14, mg_15, mg_16, mg_17, mg_18, mg_19, mg_20, mg_21, mg_22, mg_23, mg_24, mg_25, mg_26, mg_27, mg_28, mg_29, mg_30, mg_31, mg_32, mg_33, mg_34, mg_35, mg_36, mg_37, mg_38, ms_0, ms_1, ms_2, ms_13, ms_14, ms_15, ms_16, ms_21, ms_22, ms_23, ms_24, ms_28, ms_36, ms_37, ms_38, st_at, st_ne, st_st, st_swap, l0, l5, hm, b1, hd, e11, c1', c2', -List.filter_filter, -List.getElem?_map, -List.getD_eq_getElem?_getD]
    · refine ⟨r + 1, Q, lv, Nat.le_refl _, fun j j0 j1 => by omega, Or.inr (by rw [Nat.add_sub_cancel, ← hdg]; exact e), hQ, h1, h2, hc, fun _ _ => rfl, by rw [l5, show ((r + 1 : Nat) : Int) - 1 = (r : Int) by omega], fun res hg => Gx.run 40 Cs.tt (fun K _ => ?_) hg⟩
      have c1' : ¬ (dg : Int) = (M : Int) - 1 := by omega
      have mr : (M : Int) ≤ 6 := by omega
      have m0 : (0 : Int) ≤ M := by omega
      have dr : (dg : Int) < 6 := by omega
      have d0 : (0 : Int) ≤ dg := by omega
      simp (disch := first | (refine c1_id ?_; assumption) | (refine c1_st rfl ?_; repeat (first | assumption | refine c1_st rfl ?_)) | omega) [nx_l, nx_r, nx_n, x_st, x_push, x_bin, x_div, x_un, x_dup, x_pop, x_dup2, x_goto, x_ifeq, x_ifne, x_iflt, x_ifge, x_ifgt, x_ifle, x_iceq, x_icne, x_iclt, x_icge, x_icgt, x_icle, x_ifnull, x_ifnonnull, x_ldi, x_lda, x_sti, x_sta, x_iinc, x_gf, x_pf, x_ald, x_ast, x_aln, x_len, x_cl_, x_cv, x_cs, x_rc, x_r0, x_isT, x_oi, x_rv, x_ri, x_ra, Value.category, t130_0, t130_1, t130_2, t130_3, t130_4, t130_7, t130_8, t130_9, t130_10, t130_11, t130_14, t130_15, t130_18, t130_19, t130_22, t130_23, t130_26, t130_28, t130_29, t130_30, t130_31, t130_34, t130_35, t130_36, t130_37, t130_40, t130_43, t130_44, t130_47, t130_48, t130_49, t130_50, t130_51, t130_54, t130_55, t130_58, t130_61, t130_62, t130_63, t130_64, t130_65, t130_66, t130_67, t130_70, t130_71, t130_74, t130_75, t130_76, t130_77, t130_80, t130_83, t130_84, t130_85, t130_86, t130_89, t130_90, t130_91, t130_92, t130_95, t130_97, t130_99, t130_100, t130_103, t130_104, t130_105, t130_107, t130_108, t130_109, t130_111, t130_113, t130_114, t130_117, t130_118, t130_121, t130_123, t130_124, t130_125, t130_128, t130_131, t130_133, t130_135, t130_137, t130_140, t130_141, t130_144, t130_146, t130_147, t130_148, t130_151, t130_152, t130_153, t130_156, t130_157, t130_160, t130_162, t130_163, t130_164, t130_167, t130_170, t130_172, t130_175, t130_176, t130_179, t130_180, t130_181, t130_182, t130_185, t130_186, t130_189, t130_191, t130_192, t130_193, t130_194, t130_195, t130_196, t130_199, t130_200, lk_s, hp_get, hp_set, uH_at, uH_ne, uH_upd, uH_swap, iZ_add, iZ_sub, iZ_mul, iZ_neg, iZ_lt, iZ_le, iZ_eq, iZ_div, iZ_of, ix_Z, gZ_map, gZ_mapI, gZ_map', le_0, le_s, sZ_map, sZ_len, bZ_0, bZ_inj, bZ_t, bZ_f, nr_i, nr_0, nr_1, nr_b, ft_i, ft_b, ft_0, ft_1, zl_0, zl_1, zl_88, mF_len, mg_0, mg_1, mg_2, mg_3, mg_4, mg_5, mg_6, mg_7, mg_8, mg_9, mg_10, mg_11, mg_12, mg_13, mg_14, mg_15, mg_16, mg_17, mg_18, mg_19, mg_20, mg_21, mg_22, mg_23, mg_24, mg_25, mg_26, mg_27, mg_28, mg_29, mg_30, mg_31, mg_32, mg_33, mg_34, mg_35, mg_36, mg_37, mg_38, ms_0, ms_1, ms_2, ms_13, ms_14, ms_15, ms_16, ms_21, ms_22, ms_23, ms_24, ms_28, ms_36, ms_37, ms_38, st_at, st_ne, st_st, st_swap, l0, l5, hm, b1, hd, e11, c1', -List.filter_filter, -List.getElem?_map, -List.getD_eq_getElem?_getD]
set_option maxHeartbeats 2000000 in
theorem L130 (d : Nat) (hN : 53 ≤ N) (hD6 : D.length ≤ 6) (hE6 : E.length ≤ 6) (e11 : m 11 = E.length) (ir : -2147483648 ≤ i ∧ i < 2147483648) : ∀ (r : Nat) (cs : List Nat) (w : Nat → xC) (x : Nat → List Int) (lv : xL), RO w m x → SPc x i D E → cs.length = D.length → CH (x 51) cs → (∀ c ∈ cs, c < E.length) → (∀ ds : List Nat, ds.length = D.length → (∀ c ∈ ds, c < E.length) → vl E.length ds < vl E.length cs → rnC (mtL D E) ds 0 (fun _ => []) = false) → E.length ^ D.length - vl E.length cs ≤ r → c1 lv → x_lk lv 0 = some (.ref 30) → x_lk lv 1 = some (.int (iZ i)) → x_lk lv 2 = some (.int (iZ D.length)) → x_lk lv 3 = some (.int (iZ 1)) → ∃ (w' : Nat → xC) (x' : Nat → List Int), RO w' m x' ∧ Fr [46, 51] w w' ∧ (∀ j, j ≠ 46 → j ≠ 51 → x' j = x j) ∧ Gx q_k130 (d + 5) 85 (lv, [], hp w N) (some (.int (iZ (bZ (dfs (mtL D E) E.length D.length 0 (fun _ => []))))), hp w' N) := by
  intro r
  induction r with
  | zero =>
    intro cs w x lv h hS hl hch hc9 hinv hr hc l0 l1 l2 l3
    have := vl_lt hc9
    rw [hl] at this
    omega
  | succ r ih =>
    intro cs w x lv h hS hl hch hc9 hinv hr hc l0 l1 l2 l3
    obtain ⟨w1, Bd1, R1, F1, X1⟩ := m131 d hN h hS cs hl hch hc9
    obtain ⟨j, hj⟩ : ∃ j, j = ftC (mtL D E) cs 0 (fun _ => []) := ⟨_, rfl⟩
    rw [← hj] at X1
    have hle := (ftC_le (mtL D E) cs 0 (fun _ => [])).2
    rw [← hj, hl] at hle
    have hm := h.1
    by_cases hjn : j = D.length
    · have ht : rnC (mtL D E) cs 0 (fun _ => []) = true := ftC_all _ (by rw [← hj, hjn, hl, Nat.zero_add])
      have hd : dfs (mtL D E) E.length D.length 0 (fun _ => []) = true := (dfs_iff _ _ _ _ _).mpr ⟨cs, hl, hc9, ht⟩
      rw [hd]
      refine ⟨w1, _, R1, F1.sub (fun j hj => by
        rw [List.mem_singleton] at hj
        rw [hj]
        decide), fun j j1 _ => ux_ne j1, Gx.fin 40 X1 (fun K mm => ?_)⟩
      rw [hjn] at mm
      simp (disch := first | (refine c1_id ?_; assumption) | (refine c1_st rfl ?_; repeat (first | assumption | refine c1_st rfl ?_)) | omega) [nx_l, nx_r, nx_n, x_st, x_push, x_bin, x_div, x_un, x_dup, x_pop, x_dup2, x_goto, x_ifeq, x_ifne, x_iflt, x_ifge, x_ifgt, x_ifle, x_iceq, x_icne, x_iclt, x_icge, x_icgt, x_icle, x_ifnull, x_ifnonnull, x_ldi, x_lda, x_sti, x_sta, x_iinc, x_gf, x_pf, x_ald, x_ast, x_aln, x_len, x_cl_, x_cv, x_cs, x_rc, x_r0, x_isT, x_oi, x_rv, x_ri, x_ra, Value.category, t130_0, t130_1, t130_2, t130_3, t130_4, t130_7, t130_8, t130_9, t130_10, t130_11, t130_14, t130_15, t130_18, t130_19, t130_22, t130_23, t130_26, t130_28, t130_29, t130_30, t130_31, t130_34, t130_35, t130_36, t130_37, t130_40, t130_43, t130_44, t130_47, t130_48, t130_49, t130_50, t130_51, t130_54, t130_55, t130_58, t130_61, t130_62, t130_63, t130_64, t130_65, t130_66, t130_67, t130_70, t130_71, t130_74, t130_75, t130_76, t130_77, t130_80, t130_83, t130_84, t130_85, t130_86, t130_89, t130_90, t130_91, t130_92, t130_95, t130_97, t130_99, t130_100, t130_103, t130_104, t130_105, t130_107, t130_108, t130_109, t130_111, t130_113, t130_114, t130_117, t130_118, t130_121, t130_123, t130_124, t130_125, t130_128, t130_131, t130_133, t130_135, t130_137, t130_140, t130_141, t130_144, t130_146, t130_147, t130_148, t130_151, t130_152, t130_153, t130_156, t130_157, t130_160, t130_162, t130_163, t130_164, t130_167, t130_170, t130_172, t130_175, t130_176, t130_179, t130_180, t130_181, t130_182, t130_185, t130_186, t130_189, t130_191, t130_192, t130_193, t130_194, t130_195, t130_196, t130_199, t130_200, lk_s, hp_get, hp_set, uH_at, uH_ne, uH_upd, uH_swap, iZ_add, iZ_sub, iZ_mul, iZ_neg, iZ_lt, iZ_le, iZ_eq, iZ_div, iZ_of, ix_Z, gZ_map, gZ_mapI, gZ_map', le_0, le_s, sZ_map, sZ_len, bZ_0, bZ_inj, bZ_t, bZ_f, nr_i, nr_0, nr_1, nr_b, ft_i, ft_b, ft_0, ft_1, zl_0, zl_1, zl_88, mF_len, mg_0, mg_1, mg_2, mg_3, mg_4, mg_5, mg_6, mg_7, mg_8, mg_9, mg_10, mg_11, mg_12, mg_13, mg_14, mg_15, mg_16, mg_17, mg_18, mg_19, mg_20, mg_21, mg_22, mg_23, mg_24, mg_25, mg_26, mg_27, mg_28, mg_29, mg_30, mg_31, mg_32, mg_33, mg_34, mg_35, mg_36, mg_37, mg_38, ms_0, ms_1, ms_2, ms_13, ms_14, ms_15, ms_16, ms_21, ms_22, ms_23, ms_24, ms_28, ms_36, ms_37, ms_38, st_at, st_ne, st_st, st_swap, l0, l1, l2, l3, hm, mm, -List.filter_filter, -List.getElem?_map, -List.getD_eq_getElem?_getD]
    · have hjl : j < cs.length := by omega
      have S1 := hS.mv (x' := ux x 46 Bd1) (fun j j1 _ => ux_ne j1)
      have hm1 := R1.1
      have h51 : w1 51 = cI 0 (x 51) := (R1.2 51 (by decide) (by decide)).1
      have n51 : (x 51).length = 6 := (R1.2 51 (by decide) (by decide)).2
      have C4 := c1_st (i := 4) (v := .int (iZ (j : Int))) rfl hc
      have C5 := c1_st (i := 5) (v := .int (iZ ((j : Int) + 1))) rfl C4
      obtain ⟨lvA, hA, sA, gA⟩ := l130_111 (w := w1) (m := m) (d + 5) hN hm1 D.length (by omega) (D.length - (j + 1)) ((j : Int) + 1) (x 51) _ n51 (by omega) (by omega) C5 (by rw [lk_s C4, lk_s hc]; exact l0) (by rw [lk_s C4]; rfl) (by rw [lk_s C4, lk_s hc]; exact l2)
      rw [uH_self h51] at gA
      obtain ⟨Q1, hQ1⟩ : ∃ Q, Q = cpl 0 (fun _ => 0) (D.length - (j + 1)) ((j : Int) + 1) (x 51) := ⟨_, rfl⟩
      have nQ1 : Q1.length = 6 := by rw [hQ1, cpl_len]; exact n51
      have aQ1 : ∀ q, 0 ≤ q → gZ Q1 q = if (j : Int) + 1 ≤ q ∧ q < D.length then 0 else gZ (x 51) q := fun q q0 => by
        rw [hQ1, cpl_at (by omega) (by omega) q0]
        by_cases hq : (j : Int) + 1 ≤ q ∧ q < D.length
        · rw [if_pos (by omega), if_pos hq]
        · rw [if_neg (by omega), if_neg hq]
      rw [← hQ1] at gA
      have a0 : x_lk lvA 0 = some (.ref 30) := by rw [sA 0 (by decide), lk_s C4, lk_s hc]; exact l0
      have a1 : x_lk lvA 1 = some (.int (iZ i)) := by rw [sA 1 (by decide), lk_s C4, lk_s hc]; exact l1
      have a2 : x_lk lvA 2 = some (.int (iZ D.length)) := by rw [sA 2 (by decide), lk_s C4, lk_s hc]; exact l2
      have a4 : x_lk lvA 4 = some (.int (iZ (j : Int))) := by rw [sA 4 (by decide), lk_s C4, lk_s hc]; rfl
      have A5 := c1_st (i := 5) (v := .int (iZ (j : Int))) rfl hA
      obtain ⟨k', Q', lvB, b1, b2, b3, b4, b5, b6, b7, b8, b9, b10⟩ := l130_135 (w := w1) (m := m) (d + 5) hN hm1 cs D.length hl hD6 E.length hE6 hc9 e11 (j + 1) Q1 _ (by omega) nQ1 (fun q hq => by rw [aQ1 _ (by omega), if_neg (by omega)]; exact hch q (by omega)) (fun q q0 q1 => by rw [aQ1 _ (by omega), if_pos (by omega)]) A5 (by rw [lk_s hA]; exact a0) (by rw [lk_s hA, show ((j + 1 : Nat) : Int) - 1 = (j : Int) by omega]; rfl)
      have c0_ : x_lk lvB 0 = some (.ref 30) := by rw [b8 0 (by decide), lk_s hA]; exact a0
      have c1_ : x_lk lvB 1 = some (.int (iZ i)) := by rw [b8 1 (by decide), lk_s hA]; exact a1
      have c2_ : x_lk lvB 2 = some (.int (iZ D.length)) := by rw [b8 2 (by decide), lk_s hA]; exact a2
      obtain ⟨w2, hw2⟩ : ∃ w2, w2 = uH w1 51 (cI 0 Q') := ⟨_, rfl⟩
      rw [← hw2] at b10
      have R2 : RO w2 m (ux (ux x 46 Bd1) 51 Q') := by rw [hw2]; exact R1.set (j := 51) (by decide) b4
      have F2 : Fr [46, 51] w w2 := by
        rw [hw2]
        exact (F1.sub (fun j hj => by
          rw [List.mem_singleton] at hj
          rw [hj]
          decide)).up (by decide)
      have x2 : ∀ q, q ≠ 46 → q ≠ 51 → ux (ux x 46 Bd1) 51 Q' q = x q := fun q q1 q2 => by rw [ux_ne q2, ux_ne q1]
      have g85 : ∀ res, Gx q_k130 (d + 5) 170 (lvB, [], hp w2 N) res → Gx q_k130 (d + 5) 85 (lv, [], hp w N) res := fun res hg => by
        refine Gx.run 40 X1 (fun K mm => ?_) (gA res (Gx.run 20 Cs.tt (fun K _ => ?_) (b10 res hg)))
        · have nj : ¬ (j : Int) = (D.length : Int) := by omega
          have j9 : (j : Int) < 100 := by omega
          have d9 : (D.length : Int) < 100 := by omega
          simp (disch := first | (refine c1_id ?_; assumption) | (refine c1_st rfl ?_; repeat (first | assumption | refine c1_st rfl ?_)) | omega) [nx_l, nx_r, nx_n, x_st, x_push, x_bin, x_div, x_un, x_dup, x_pop, x_dup2, x_goto, x_ifeq, x_ifne, x_iflt, x_ifge, x_ifgt, x_ifle, x_iceq, x_icne, x_iclt, x_icge, x_icgt, x_icle, x_ifnull, x_ifnonnull, x_ldi, x_lda, x_sti, x_sta, x_iinc, x_gf, x_pf, x_ald, x_ast, x_aln, x_len, x_cl_, x_cv, x_cs, x_rc, x_r0, x_isT, x_oi, x_rv, x_ri, x_ra, Value.category, t130_0, t130_1, t130_2, t130_3, t130_4, t130_7, t130_8, t130_9, t130_10, t130_11, t130_14, t130_15, t130_18, t130_19, t130_22, t130_23, t130_26, t130_28, t130_29, t130_30, t130_31, t130_34, t130_35, t130_36, t130_37, t130_40, t130_43, t130_44, t130_47, t130_48, t130_49, t130_50, t130_51, t130_54, t130_55, t130_58, t130_61, t130_62, t130_63, t130_64, t130_65, t130_66, t130_67, t130_70, t130_71, t130_74, t130_75, t130_76, t130_77, t130_80, t130_83, t130_84, t130_85, t130_86, t130_89, t130_90, t130_91, t130_92, t130_95, t130_97, t130_99, t130_100, t130_103, t130_104, t130_105, t130_107, t130_108, t130_109, t130_111, t130_113, t130_114, t130_117, t130_118, t130_121, t130_123, t130_124, t130_125, t130_128, t130_131, t130_133, t130_135, t130_137, t130_140, t130_141, t130_144, t130_146, t130_147, t130_148, t130_151, t130_152, t130_153, t130_156, t130_157, t130_160, t130_162, t130_163, t130_164, t130_167, t130_170, t130_172, t130_175, t130_176, t130_179, t130_180, t130_181, t130_182, t130_185, t130_186, t130_189, t130_191, t130_192, t130_193, t130_194, t130_195, t130_196, t130_199, t130_200, lk_s, hp_get, hp_set, uH_at, uH_ne, uH_upd, uH_swap, iZ_add, iZ_sub, iZ_mul, iZ_neg, iZ_lt, iZ_le, iZ_eq, iZ_div, iZ_of, ix_Z, gZ_map, gZ_mapI, gZ_map', le_0, le_s, sZ_map, sZ_len, bZ_0, bZ_inj, bZ_t, bZ_f, nr_i, nr_0, nr_1, nr_b, ft_i, ft_b, ft_0, ft_1, zl_0, zl_1, zl_88, mF_len, mg_0, mg_1, mg_2, mg_3, mg_4, mg_5, mg_6, mg_7, mg_8, mg_9, mg_10, mg_11, mg_12, mg_13, mg_14, mg_15, mg_16, mg_17, mg_18, mg_19, mg_20, mg_21, mg_22, mg_23, mg_24, mg_25, mg_26, mg_27, mg_28, mg_29, mg_30, mg_31, mg_32, mg_33, mg_34, mg_35, mg_36, mg_37, mg_38, ms_0, ms_1, ms_2, ms_13, ms_14, ms_15, ms_16, ms_21, ms_22, ms_23, ms_24, ms_28, ms_36, ms_37, ms_38, st_at, st_ne, st_st, st_swap, l0, l1, l2, l3, hm, mm, nj, -List.filter_filter, -List.getElem?_map, -List.getD_eq_getElem?_getD]
        · simp (disch := first | (refine c1_id ?_; assumption) | (refine c1_st rfl ?_; repeat (first | assumption | refine c1_st rfl ?_)) | omega) [nx_l, nx_r, nx_n, x_st, x_push, x_bin, x_div, x_un, x_dup, x_pop, x_dup2, x_goto, x_ifeq, x_ifne, x_iflt, x_ifge, x_ifgt, x_ifle, x_iceq, x_icne, x_iclt, x_icge, x_icgt, x_icle, x_ifnull, x_ifnonnull, x_ldi, x_lda, x_sti, x_sta, x_iinc, x_gf, x_pf, x_ald, x_ast, x_aln, x_len, x_cl_, x_cv, x_cs, x_rc, x_r0, x_isT, x_oi, x_rv, x_ri, x_ra, Value.category, t130_0, t130_1, t130_2, t130_3, t130_4, t130_7, t130_8, t130_9, t130_10, t130_11, t130_14, t130_15, t130_18, t130_19, t130_22, t130_23, t130_26, t130_28, t130_29, t130_30, t130_31, t130_34, t130_35, t130_36, t130_37, t130_40, t130_43, t130_44, t130_47, t130_48, t130_49, t130_50, t130_51, t130_54, t130_55, t130_58, t130_61, t130_62, t130_63, t130_64, t130_65, t130_66, t130_67, t130_70, t130_71, t130_74, t130_75, t130_76, t130_77, t130_80, t130_83, t130_84, t130_85, t130_86, t130_89, t130_90, t130_91, t130_92, t130_95, t130_97, t130_99, t130_100, t130_103, t130_104, t130_105, t130_107, t130_108, t130_109, t130_111, t130_113, t130_114, t130_117, t130_118, t130_121, t130_123, t130_124, t130_125, t130_128, t130_131, t130_133, t130_135, t130_137, t130_140, t130_141, t130_144, t130_146, t130_147, t130_148, t130_151, t130_152, t130_153, t130_156, t130_157, t130_160, t130_162, t130_163, t130_164, t130_167, t130_170, t130_172, t130_175, t130_176, t130_179, t130_180, t130_181, t130_182, t130_185, t130_186, t130_189, t130_191, t130_192, t130_193, t130_194, t130_195, t130_196, t130_199, t130_200, lk_s, hp_get, hp_set, uH_at, uH_ne, uH_upd, uH_swap, iZ_add, iZ_sub, iZ_mul, iZ_neg, iZ_lt, iZ_le, iZ_eq, iZ_div, iZ_of, ix_Z, gZ_map, gZ_mapI, gZ_map', le_0, le_s, sZ_map, sZ_len, bZ_0, bZ_inj, bZ_t, bZ_f, nr_i, nr_0, nr_1, nr_b, ft_i, ft_b, ft_0, ft_1, zl_0, zl_1, zl_88, mF_len, mg_0, mg_1, mg_2, mg_3, mg_4, mg_5, mg_6, mg_7, mg_8, mg_9, mg_10, mg_11, mg_12, mg_13, mg_14, mg_15, mg_16, mg_17, mg_18, mg_19, mg_20, mg_21, mg_22, mg_23, mg_24, mg_25, mg_26, mg_27, mg_28, mg_29, mg_30, mg_31, mg_32, mg_33, mg_34, mg_35, mg_36, mg_37, mg_38, ms_0, ms_1, ms_2, ms_13, ms_14, ms_15, ms_16, ms_21, ms_22, ms_23, ms_24, ms_28, ms_36, ms_37, ms_38, st_at, st_ne, st_st, st_swap, a4, -List.filter_filter, -List.getElem?_map, -List.getD_eq_getElem?_getD]
      have hV := carry (M := E.length) (cs := cs) (k := k') (j + 1) b1 (by omega) b2
      rw [hl] at hV
      have gap : ∀ ds : List Nat, ds.length = D.length → (∀ c ∈ ds, c < E.length) → vl E.length ds < (vl E.length (cs.take k') + 1) * E.length ^ (D.length - k') → rnC (mtL D E) ds 0 (fun _ => []) = false := fun ds hd1 hd2 hd3 => by
        by_cases hlt : vl E.length ds < vl E.length cs
        · exact hinv ds hd1 hd2 hlt
        · refine ftC_same (mtL D E) (cs := cs) (j := j) (by rw [← hj, Nat.zero_add]) hjl ?_
          refine vl_gap (m := E.length) (by rw [hd1, hl]) hjl hc9 hd2 (by omega) ?_
          rw [hl, hV]
          exact hd3
      have hm2 := R2.1
      by_cases hk0 : k' = 0
      · subst hk0
        have hd : dfs (mtL D E) E.length D.length 0 (fun _ => []) = false := by
          cases hdf : dfs (mtL D E) E.length D.length 0 (fun _ => []) with
          | false => rfl
          | true =>
            obtain ⟨ds, d1, d2, d3⟩ := (dfs_iff _ _ _ _ _).mp hdf
            have := vl_lt d2
            rw [d1] at this
            rw [gap ds d1 d2 (by
              show vl E.length ds < (vl E.length [] + 1) * E.length ^ (D.length - 0)
              rw [Nat.sub_zero]
              show vl E.length ds < (0 + 1) * E.length ^ D.length
              omega)] at d3
            cases d3
        rw [hd]
        refine ⟨w2, _, R2, F2, x2, g85 _ (Gx.fin 40 Cs.tt (fun K _ => ?_))⟩
        have b9' : x_lk lvB 5 = some (.int (iZ (-1))) := b9
        simp (disch := first | (refine c1_id ?_; assumption) | (refine c1_st rfl ?_; repeat (first | assumption | refine c1_st rfl ?_)) | omega) [nx_l, nx_r, nx_n, x_st, x_push, x_bin, x_div, x_un, x_dup, x_pop, x_dup2, x_goto, x_ifeq, x_ifne, x_iflt, x_ifge, x_ifgt, x_ifle, x_iceq, x_icne, x_iclt, x_icge, x_icgt, x_icle, x_ifnull, x_ifnonnull, x_ldi, x_lda, x_sti, x_sta, x_iinc, x_gf, x_pf, x_ald, x_ast, x_aln, x_len, x_cl_, x_cv, x_cs, x_rc, x_r0, x_isT, x_oi, x_rv, x_ri, x_ra, Value.category, t130_0, t130_1, t130_2, t130_3, t130_4, t130_7, t130_8, t130_9, t130_10, t130_11, t130_14, t130_15, t130_18, t130_19, t130_22, t130_23, t130_26, t130_28, t130_29, t130_30, t130_31, t130_34, t130_35, t130_36, t130_37, t130_40, t130_43, t130_44, t130_47, t130_48, t130_49, t130_50, t130_51, t130_54, t130_55, t130_58, t130_61, t130_62, t130_63, t130_64, t130_65, t130_66, t130_67, t130_70, t130_71, t130_74, t130_75, t130_76, t130_77, t130_80, t130_83, t130_84, t130_85, t130_86, t130_89, t130_90, t130_91, t130_92, t130_95, t130_97, t130_99, t130_100, t130_103, t130_104, t130_105, t130_107, t130_108, t130_109, t130_111, t130_113, t130_114, t130_117, t130_118, t130_121, t130_123, t130_124, t130_125, t130_128, t130_131, t130_133, t130_135, t130_137, t130_140, t130_141, t130_144, t130_146, t130_147, t130_148, t130_151, t130_152, t130_153, t130_156, t130_157, t130_160, t130_162, t130_163, t130_164, t130_167, t130_170, t130_172, t130_175, t130_176, t130_179, t130_180, t130_181, t130_182, t130_185, t130_186, t130_189, t130_191, t130_192, t130_193, t130_194, t130_195, t130_196, t130_199, t130_200, lk_s, hp_get, hp_set, uH_at, uH_ne, uH_upd, uH_swap, iZ_add, iZ_sub, iZ_mul, iZ_neg, iZ_lt, iZ_le, iZ_eq, iZ_div, iZ_of, ix_Z, gZ_map, gZ_mapI, gZ_map', le_0, le_s, sZ_map, sZ_len, bZ_0, bZ_inj, bZ_t, bZ_f, nr_i, nr_0, nr_1, nr_b, ft_i, ft_b, ft_0, ft_1, zl_0, zl_1, zl_88, mF_len, mg_0, mg_1, mg_2, mg_3, mg_4, mg_5, mg_6, mg_7, mg_8, mg_9, mg_10, mg_11, mg_12, mg_13, mg_14, mg_15, mg_16, mg_17, mg_18, mg_19, mg_20, mg_21, mg_22, mg_23, mg_24, mg_25, mg_26, mg_27, mg_28, mg_29, mg_30, mg_31, mg_32, mg_33, mg_34, mg_35, mg_36, mg_37, mg_38, ms_0, ms_1, ms_2, ms_13, ms_14, ms_15, ms_16, ms_21, ms_22, ms_23, ms_24, ms_28, ms_36, ms_37, ms_38, st_at, st_ne, st_st, st_swap, c0_, b9', -List.filter_filter, -List.getElem?_map, -List.getD_eq_getElem?_getD]
      · obtain ⟨k, rfl⟩ : ∃ k, k' = k + 1 := ⟨k' - 1, by omega⟩
        have hkc : k < cs.length := by omega
        have hdl := getD_lt hc9 hkc
        have hdn : cs.getD k 0 + 1 ≠ E.length := by
          rcases b3 with z | z
          · omega
          · rw [Nat.add_sub_cancel] at z
            exact z
        obtain ⟨cs', hcs'⟩ : ∃ cs', cs' = cs.take k ++ ((cs.getD k 0 + 1) :: List.replicate (D.length - (k + 1)) 0) := ⟨_, rfl⟩
        have lc : (cs.take k).length = k := by rw [List.length_take]; omega
        have hl' : cs'.length = D.length := by
          rw [hcs', List.length_append, lc, List.length_cons, List.length_replicate]
          omega
        have gc : ∀ q : Nat, q < D.length → cs'.getD q 0 = if q < k then cs.getD q 0 else if q = k then cs.getD k 0 + 1 else 0 := fun q hq => by
          rw [hcs', List.getD_eq_getElem?_getD]
          by_cases hqk : q < k
          · rw [if_pos hqk, List.getElem?_append_left (by rw [lc]; exact hqk), List.getElem?_take_of_lt hqk, List.getD_eq_getElem?_getD]
          · rw [if_neg hqk, List.getElem?_append_right (by rw [lc]; omega), lc]
            by_cases he : q = k
            · rw [if_pos he, he, Nat.sub_self]
              rfl
            · rw [if_neg he, show q - k = (q - (k + 1)) + 1 by omega, List.getElem?_cons_succ, List.getElem?_replicate, if_pos (by omega)]
              rfl
        have hc9' : ∀ c ∈ cs', c < E.length := fun c hcm => by
          obtain ⟨q, hq, e⟩ := List.getElem_of_mem hcm
          have g := gc q (by omega)
          rw [List.getD_eq_getElem?_getD, List.getElem?_eq_getElem hq] at g
          have g' : cs'[q] = if q < k then cs.getD q 0 else if q = k then cs.getD k 0 + 1 else 0 := g
          rw [← e, g']
          split
          · exact getD_lt hc9 (by omega)
          · split <;> omega
        have hv' : vl E.length cs' = (vl E.length (cs.take (k + 1)) + 1) * E.length ^ (D.length - (k + 1)) := by
          rw [hcs', vl_app, vl_take hkc, List.length_cons, List.length_replicate]
          show vl E.length (cs.take k) * E.length ^ (D.length - (k + 1) + 1) + ((cs.getD k 0 + 1) * E.length ^ (List.replicate (D.length - (k + 1)) 0).length + vl E.length (List.replicate (D.length - (k + 1)) 0)) = _
          rw [vl_zero, List.length_replicate, Nat.add_zero ((cs.getD k 0 + 1) * E.length ^ (D.length - (k + 1))), Nat.pow_succ, Nat.mul_comm (E.length ^ (D.length - (k + 1))) E.length, ← Nat.mul_assoc, ← Nat.add_mul, Nat.add_assoc]
        have hup := vl_up hc9 (j + 1)
        rw [hl, hV, ← hv'] at hup
        have hvl' := vl_lt hc9'
        rw [hl'] at hvl'
        obtain ⟨w3, hw3⟩ : ∃ w3, w3 = uH w2 51 (cI 0 (sZ Q' k (gZ Q' k + 1))) := ⟨_, rfl⟩
        have nQ3 : (sZ Q' k (gZ Q' k + 1)).length = 6 := by rw [sZ_len]; exact b4
        have R3 : RO w3 m (ux (ux (ux x 46 Bd1) 51 Q') 51 (sZ Q' k (gZ Q' k + 1))) := by rw [hw3]; exact R2.set (j := 51) (by decide) nQ3
        have ch3 : CH (ux (ux (ux x 46 Bd1) 51 Q') 51 (sZ Q' k (gZ Q' k + 1)) 51) cs' := fun q hq => by
          rw [hl'] at hq
          rw [ux_at, gZ_sZ (by omega) (by omega) (by omega), gc q hq]
          by_cases hqk : q < k
          · rw [if_neg (by omega), if_pos hqk]
            exact b5 q (by omega)
          · by_cases he : q = k
            · subst he
              rw [if_pos rfl, if_neg hqk, if_pos rfl, b5 q (by omega)]
              omega
            · rw [if_neg (by omega), if_neg hqk, if_neg he]
              exact b6 q (by omega) hq
        have b9' : x_lk lvB 5 = some (.int (iZ (k : Int))) := by
          rw [b9]
          congr 3
          omega
        have C3 := c1_st (i := 3) (v := .int (iZ 1)) rfl b7
        obtain ⟨w', x', p1, p2, p3, p4⟩ := ih cs' w3 _ ((3, .int (iZ 1)) :: lvB.filter (x_keep 3)) R3 (hS.mv (fun q q1 q2 => by rw [ux_ne q2]; exact x2 q q1 q2)) hl' ch3 hc9' (fun ds d1 d2 d3 => gap ds d1 d2 (by rw [hv'] at d3; exact d3)) (by omega) C3 (by rw [lk_s b7]; exact c0_) (by rw [lk_s b7]; exact c1_) (by rw [lk_s b7]; exact c2_) (by rw [lk_s b7]; rfl)
        have F3 : Fr [46, 51] w w3 := by
          rw [hw3]
          exact F2.up (by decide)
        refine ⟨w', x', p1, F3.tr p2, fun q q1 q2 => (p3 q q1 q2).trans (by rw [ux_ne q2]; exact x2 q q1 q2), g85 _ (Gx.run 60 Cs.tt (fun K _ => ?_) p4)⟩
        have h512 : w2 51 = cI 0 Q' := (R2.2 51 (by decide) (by decide)).1
        have k0 : ¬ (k : Int) < 0 := by omega
        have k6 : (k : Int) < 6 := by omega
        rw [hw3]
        simp (disch := first | (refine c1_id ?_; assumption) | (refine c1_st rfl ?_; repeat (first | assumption | refine c1_st rfl ?_)) | omega) [nx_l, nx_r, nx_n, x_st, x_push, x_bin, x_div, x_un, x_dup, x_pop, x_dup2, x_goto, x_ifeq, x_ifne, x_iflt, x_ifge, x_ifgt, x_ifle, x_iceq, x_icne, x_iclt, x_icge, x_icgt, x_icle, x_ifnull, x_ifnonnull, x_ldi, x_lda, x_sti, x_sta, x_iinc, x_gf, x_pf, x_ald, x_ast, x_aln, x_len, x_cl_, x_cv, x_cs, x_rc, x_r0, x_isT, x_oi, x_rv, x_ri, x_ra, Value.category, t130_0, t130_1, t130_2, t130_3, t130_4, t130_7, t130_8, t130_9, t130_10, t130_11, t130_14, t130_15, t130_18, t130_19, t130_22, t130_23, t130_26, t130_28, t130_29, t130_30, t130_31, t130_34, t130_35, t130_36, t130_37, t130_40, t130_43, t130_44, t130_47, t130_48, t130_49, t130_50, t130_51, t130_54, t130_55, t130_58, t130_61, t130_62, t130_63, t130_64, t130_65, t130_66, t130_67, t130_70, t130_71, t130_74, t130_75, t130_76, t130_77, t130_80, t130_83, t130_84, t130_85, t130_86, t130_89, t130_90, t130_91, t130_92, t130_95, t130_97, t130_99, t130_100, t130_103, t130_104, t130_105, t130_107, t130_108, t130_109, t130_111, t130_113, t130_114, t130_117, t130_118, t130_121, t130_123, t130_124, t130_125, t130_128, t130_131, t130_133, t130_135, t130_137, t130_140, t130_141, t130_144, t130_146, t130_147, t130_148, t130_151, t130_152, t130_153, t130_156, t130_157, t130_160, t130_162, t130_163, t130_164, t130_167, t130_170, t130_172, t130_175, t130_176, t130_179, t130_180, t130_181, t130_182, t130_185, t130_186, t130_189, t130_191, t130_192, t130_193, t130_194, t130_195, t130_196, t130_199, t130_200, lk_s, hp_get, hp_set, uH_at, uH_ne, uH_upd, uH_swap, iZ_add, iZ_sub, iZ_mul, iZ_neg, iZ_lt, iZ_le, iZ_eq, iZ_div, iZ_of, ix_Z, gZ_map, gZ_mapI, gZ_map', le_0, le_s, sZ_map, sZ_len, bZ_0, bZ_inj, bZ_t, bZ_f, nr_i, nr_0, nr_1, nr_b, ft_i, ft_b, ft_0, ft_1, zl_0, zl_1, zl_88, mF_len, mg_0, mg_1, mg_2, mg_3, mg_4, mg_5, mg_6, mg_7, mg_8, mg_9, mg_10, mg_11, mg_12, mg_13, mg_14, mg_15, mg_16, mg_17, mg_18, mg_19, mg_20, mg_21, mg_22, mg_23, mg_24, mg_25, mg_26, mg_27, mg_28, mg_29, mg_30, mg_31, mg_32, mg_33, mg_34, mg_35, mg_36, mg_37, mg_38, ms_0, ms_1, ms_2, ms_13, ms_14, ms_15, ms_16, ms_21, ms_22, ms_23, ms_24, ms_28, ms_36, ms_37, ms_38, st_at, st_ne, st_st, st_swap, c0_, b9', hm2, h512, k0, -List.filter_filter, -List.getElem?_map, -List.getD_eq_getElem?_getD]
def ksS : List Nat := [45, 46, 51]
theorem m130 (d : Nat) (hN : 53 ≤ N) (h : RO w m x) (hI : RI x) (hD : RD i D x) (hE : RW E (x 42) (x 43) (x 44)) (gE : gC E) (e11 : m 11 = E.length) :
    ∃ (w' : Nat → xC) (x' : Nat → List Int), RO w' m x' ∧ RI x' ∧ Fr ksS w w' ∧ (∀ j, ¬ j ∈ ksS → x' j = x j) ∧ Xc (d + 6) 130 [.ref 30, .int (iZ i)] (hp w N) (some (.int (iZ (bZ (dfs (mtL D E) E.length D.length 0 (fun _ => []))))), hp w' N) := by
  have hm := h.1
  have gE1 := gE.1
  have gE2 := gE.2.1
  have hD' := hD
  obtain ⟨⟨a1, a2, a3, a4, a5, a6, a7, a8, a9⟩, gD, hs⟩ := hD'
  have gD2 := gD.2.1
  obtain ⟨S1, t1, t2, t3, t4, X1⟩ := A110 (d + 4) hN h hI hD 0 0 (Or.inl rfl) (Or.inl rfl)
  rw [shH_0] at t3
  obtain ⟨w1, hw1⟩ : ∃ w1, w1 = uH w 45 (cI 0 S1) := ⟨_, rfl⟩
  have X1' : Xc (d + 5) 110 [.ref 30, .int (iZ i), .int (iZ 0), .int (iZ 0)] (hp w N) (none, hp w1 N) := by rw [hw1]; exact X1
  have R1 : RO w1 m (ux x 45 S1) := by rw [hw1]; exact h.set (j := 45) (by decide) t1
  have es : gZ (x 43) (m 11) = (flt E).length := by
    rw [e11, hE.2.1 _ (Nat.le_refl _), stC_all]
  have hc : c1 (lv_args 0 [.ref 30, .int (iZ i)]) := by simp [c1, lv_args, Value.category]
  have l0 : x_lk (lv_args 0 [.ref 30, .int (iZ i)]) 0 = some (.ref 30) := rfl
  have l1 : x_lk (lv_args 0 [.ref 30, .int (iZ i)]) 1 = some (.int (iZ i)) := rfl
  have C2 := c1_st (i := 2) (v := .int (iZ 0)) rfl hc
  have h45 : w1 45 = cI 0 S1 := (R1.2 45 (by decide) (by decide)).1
  obtain ⟨lvA, hA, sA, gA⟩ := l130_9 (w := w1) (m := m) (Cl := x 42) (T := x 43) (d + 5) hN R1.1 (R1.2 42 (by decide) (by decide)).1 (R1.2 42 (by decide) (by decide)).2 (R1.2 43 (by decide) (by decide)).1 (R1.2 43 (by decide) (by decide)).2 ((flt E).length : Int) es (by omega) (by omega) (by omega) (flt E).length 0 S1 _ t1 (by omega) (by omega) C2 (by rw [lk_s hc]; exact l0) (by rw [lk_s hc]; rfl)
  rw [uH_self h45] at gA
  obtain ⟨S2, hS2⟩ : ∃ Q, Q = cpl 88 (fun k => gZ (x 42) k) (flt E).length 0 S1 := ⟨_, rfl⟩
  have nS2 : S2.length = 160 := by rw [hS2, cpl_len]; exact t1
  have aS2 : ∀ q, 0 ≤ q → gZ S2 q = if 88 ≤ q ∧ q < 88 + (flt E).length then (flt E).getD (q - 88).toNat 0 else gZ S1 q := fun q q0 => by
    rw [hS2, cpl_at (by omega) (by omega) q0, Int.add_zero]
    by_cases hq : 88 ≤ q ∧ q < 88 + (flt E).length
    · rw [if_pos hq, if_pos hq]
      have := hE.1 (q - 88).toNat (by omega)
      rw [show (((q - 88).toNat : Nat) : Int) = q - 88 by omega] at this
      exact this
    · rw [if_neg hq, if_neg hq]
  rw [← hS2] at gA
  have vE : ∀ q : Nat, q < (flt E).length → 0 ≤ (flt E).getD q 0 ∧ (flt E).getD q 0 < 204 ∧ ((flt E).getD q 0 < 99 → (flt E).getD q 0 < 26) := fun q hq => by
    obtain ⟨y, hy, hz⟩ := flt_of (getD_mem hq)
    exact (gE.2.2 y hy).2.2 _ hz
  have SO2 : SOK S2 := by
    have key : ∀ q, 0 ≤ q → (0 ≤ gZ S2 q ∧ gZ S2 q < 100000) ∧ (gZ S2 q < 99 → gZ S2 q < 52) := fun q q0 => by
      rw [aS2 q q0]
      split
      · next hq =>
        have := vE (q - 88).toNat (by omega)
        refine ⟨⟨this.1, by omega⟩, fun z => ?_⟩
        have := this.2.2 z
        omega
      · exact ⟨t2.2.1 q, t2.2.2 q⟩
    refine ⟨nS2, fun q => ?_, fun q => ?_⟩
    · by_cases q0 : 0 ≤ q
      · exact (key q q0).1
      · rw [gZ_neg (by omega)]
        exact (key 0 (by omega)).1
    · by_cases q0 : 0 ≤ q
      · exact (key q q0).2
      · rw [gZ_neg (by omega)]
        exact (key 0 (by omega)).2
  obtain ⟨w2, hw2⟩ : ∃ w2, w2 = uH w1 45 (cI 0 S2) := ⟨_, rfl⟩
  rw [← hw2] at gA
  obtain ⟨x2, hx2⟩ : ∃ x2, x2 = ux (ux x 45 S1) 45 S2 := ⟨_, rfl⟩
  have R2 : RO w2 m x2 := by rw [hw2, hx2]; exact R1.set (j := 45) (by decide) nS2
  have e45 : x2 45 = S2 := by rw [hx2, ux_at]
  have e2 : ∀ j, j ≠ 45 → x2 j = x j := fun j hj => by rw [hx2, ux_ne hj, ux_ne hj]
  have F2 : Fr ksS w w2 := by
    rw [hw2, hw1]
    exact ((Fr.rf _ _).up (by decide)).up (by decide)
  have sp : SPc x2 i D E := by
    refine ⟨?_, gD, gE, ?_, ⟨by omega, by omega, fun q hq => ?_⟩, ⟨by omega, by omega, fun q hq => ?_⟩, by rw [e45]; exact SO2⟩
    · rw [e2 30 (by decide), e2 29 (by decide), e2 33 (by decide)]
      exact hD.1
    · rw [e2 42 (by decide), e2 43 (by decide), e2 44 (by decide)]
      exact hE
    · rw [e45, aS2 _ (by omega), if_neg (by omega)]
      exact t3.2.2 q hq
    · rw [e45, aS2 _ (by omega), if_pos (by omega), show (88 + (q : Int) - 88).toNat = q by omega]
  have a0 : x_lk lvA 0 = some (.ref 30) := by rw [sA 0 (by decide), lk_s hc]; exact l0
  have a1' : x_lk lvA 1 = some (.int (iZ i)) := by rw [sA 1 (by decide), lk_s hc]; exact l1
  have A2 := c1_st (i := 2) (v := .int (iZ (D.length : Int))) rfl hA
  have hm1 := R1.1
  have hm2 := R2.1
  have h30 : w2 30 = cI 0 (x 30) := by
    have := (R2.2 30 (by decide) (by decide)).1
    rw [e2 30 (by decide)] at this
    exact this
  have g0 : ∀ res, Gx q_k130 (d + 5) 50 ((2, .int (iZ (D.length : Int))) :: lvA.filter (x_keep 2), [], hp w2 N) res → Gx q_k130 (d + 5) 0 (lv_args 0 [.ref 30, .int (iZ i)], [], hp w N) res := fun res hg => by
    refine Gx.run 20 X1' (fun K mm => ?_) (gA res (Gx.run 20 Cs.tt (fun K _ => ?_) hg))
    · generalize lv_args 0 [.ref 30, .int (iZ i)] = lv0 at hc l0 l1
      simp (disch := first | (refine c1_id ?_; assumption) | (refine c1_st rfl ?_; repeat (first | assumption | refine c1_st rfl ?_)) | omega) [nx_l, nx_r, nx_n, x_st, x_push, x_bin, x_div, x_un, x_dup, x_pop, x_dup2, x_goto, x_ifeq, x_ifne, x_iflt, x_ifge, x_ifgt, x_ifle, x_iceq, x_icne, x_iclt, x_icge, x_icgt, x_icle, x_ifnull, x_ifnonnull, x_ldi, x_lda, x_sti, x_sta, x_iinc, x_gf, x_pf, x_ald, x_ast, x_aln, x_len, x_cl_, x_cv, x_cs, x_rc, x_r0, x_isT, x_oi, x_rv, x_ri, x_ra, Value.category, t130_0, t130_1, t130_2, t130_3, t130_4, t130_7, t130_8, t130_9, t130_10, t130_11, t130_14, t130_15, t130_18, t130_19, t130_22, t130_23, t130_26, t130_28, t130_29, t130_30, t130_31, t130_34, t130_35, t130_36, t130_37, t130_40, t130_43, t130_44, t130_47, t130_48, t130_49, t130_50, t130_51, t130_54, t130_55, t130_58, t130_61, t130_62, t130_63, t130_64, t130_65, t130_66, t130_67, t130_70, t130_71, t130_74, t130_75, t130_76, t130_77, t130_80, t130_83, t130_84, t130_85, t130_86, t130_89, t130_90, t130_91, t130_92, t130_95, t130_97, t130_99, t130_100, t130_103, t130_104, t130_105, t130_107, t130_108, t130_109, t130_111, t130_113, t130_114, t130_117, t130_118, t130_121, t130_123, t130_124, t130_125, t130_128, t130_131, t130_133, t130_135, t130_137, t130_140, t130_141, t130_144, t130_146, t130_147, t130_148, t130_151, t130_152, t130_153, t130_156, t130_157, t130_160, t130_162, t130_163, t130_164, t130_167, t130_170, t130_172, t130_175, t130_176, t130_179, t130_180, t130_181, t130_182, t130_185, t130_186, t130_189, t130_191, t130_192, t130_193, t130_194, t130_195, t130_196, t130_199, t130_200, lk_s, hp_get, hp_set, uH_at, uH_ne, uH_upd, uH_swap, iZ_add, iZ_sub, iZ_mul, iZ_neg, iZ_lt, iZ_le, iZ_eq, iZ_div, iZ_of, ix_Z, gZ_map, gZ_mapI, gZ_map', le_0, le_s, sZ_map, sZ_len, bZ_0, bZ_inj, bZ_t, bZ_f, nr_i, nr_0, nr_1, nr_b, ft_i, ft_b, ft_0, ft_1, zl_0, zl_1, zl_88, mF_len, mg_0, mg_1, mg_2, mg_3, mg_4, mg_5, mg_6, mg_7, mg_8, mg_9, mg_10, mg_11, mg_12, mg_13, mg_14, mg_15, mg_16, mg_17, mg_18, mg_19, mg_20, mg_21, mg_22, mg_23, mg_24, mg_25, mg_26, mg_27, mg_28, mg_29, mg_30, mg_31, mg_32, mg_33, mg_34, mg_35, mg_36, mg_37, mg_38, ms_0, ms_1, ms_2, ms_13, ms_14, ms_15, ms_16, ms_21, ms_22, ms_23, ms_24, ms_28, ms_36, ms_37, ms_38, st_at, st_ne, st_st, st_swap, l0, l1, hm, mm, -List.filter_filter, -List.getElem?_map, -List.getD_eq_getElem?_getD]
    · simp (disch := first | (refine c1_id ?_; assumption) | (refine c1_st rfl ?_; repeat (first | assumption | refine c1_st rfl ?_)) | omega) [nx_l, nx_r, nx_n, x_st, x_push, x_bin, x_div, x_un, x_dup, x_pop, x_dup2, x_goto, x_ifeq, x_ifne, x_iflt, x_ifge, x_ifgt, x_ifle, x_iceq, x_icne, x_iclt, x_icge, x_icgt, x_icle, x_ifnull, x_ifnonnull, x_ldi, x_lda, x_sti, x_sta, x_iinc, x_gf, x_pf, x_ald, x_ast, x_aln, x_len, x_cl_, x_cv, x_cs, x_rc, x_r0, x_isT, x_oi, x_rv, x_ri, x_ra, Value.category, t130_0, t130_1, t130_2, t130_3, t130_4, t130_7, t130_8, t130_9, t130_10, t130_11, t130_14, t130_15, t130_18, t130_19, t130_22, t130_23, t130_26, t130_28, t130_29, t130_30, t130_31, t130_34, t130_35, t130_36, t130_37, t130_40, t130_43, t130_44, t130_47, t130_48, t130_49, t130_50, t130_51, t130_54, t130_55, t130_58, t130_61, t130_62, t130_63, t130_64, t130_65, t130_66, t130_67, t130_70, t130_71, t130_74, t130_75, t130_76, t130_77, t130_80, t130_83, t130_84, t130_85, t130_86, t130_89, t130_90, t130_91, t130_92, t130_95, t130_97, t130_99, t130_100, t130_103, t130_104, t130_105, t130_107, t130_108, t130_109, t130_111, t130_113, t130_114, t130_117, t130_118, t130_121, t130_123, t130_124, t130_125, t130_128, t130_131, t130_133, t130_135, t130_137, t130_140, t130_141, t130_144, t130_146, t130_147, t130_148, t130_151, t130_152, t130_153, t130_156, t130_157, t130_160, t130_162, t130_163, t130_164, t130_167, t130_170, t130_172, t130_175, t130_176, t130_179, t130_180, t130_181, t130_182, t130_185, t130_186, t130_189, t130_191, t130_192, t130_193, t130_194, t130_195, t130_196, t130_199, t130_200, lk_s, hp_get, hp_set, uH_at, uH_ne, uH_upd, uH_swap, iZ_add, iZ_sub, iZ_mul, iZ_neg, iZ_lt, iZ_le, iZ_eq, iZ_div, iZ_of, ix_Z, gZ_map, gZ_mapI, gZ_map', le_0, le_s, sZ_map, sZ_len, bZ_0, bZ_inj, bZ_t, bZ_f, nr_i, nr_0, nr_1, nr_b, ft_i, ft_b, ft_0, ft_1, zl_0, zl_1, zl_88, mF_len, mg_0, mg_1, mg_2, mg_3, mg_4, mg_5, mg_6, mg_7, mg_8, mg_9, mg_10, mg_11, mg_12, mg_13, mg_14, mg_15, mg_16, mg_17, mg_18, mg_19, mg_20, mg_21, mg_22, mg_23, mg_24, mg_25, mg_26, mg_27, mg_28, mg_29, mg_30, mg_31, mg_32, mg_33, mg_34, mg_35, mg_36, mg_37, mg_38, ms_0, ms_1, ms_2, ms_13, ms_14, ms_15, ms_16, ms_21, ms_22, ms_23, ms_24, ms_28, ms_36, ms_37, ms_38, st_at, st_ne, st_st, st_swap, a0, a1', hm2, h30, a7, -List.filter_filter, -List.getElem?_map, -List.getD_eq_getElem?_getD]
  have q0 : x_lk ((2, .int (iZ (D.length : Int))) :: lvA.filter (x_keep 2)) 0 = some (.ref 30) := by rw [lk_s hA]; exact a0
  have q1 : x_lk ((2, .int (iZ (D.length : Int))) :: lvA.filter (x_keep 2)) 1 = some (.int (iZ i)) := by rw [lk_s hA]; exact a1'
  have q2 : x_lk ((2, .int (iZ (D.length : Int))) :: lvA.filter (x_keep 2)) 2 = some (.int (iZ (D.length : Int))) := by rw [lk_s hA]; rfl
  generalize ((2, .int (iZ (D.length : Int))) :: lvA.filter (x_keep 2) : xL) = lvB at A2 g0 q0 q1 q2
  have le : ∀ (w' : Nat → xC) (x' : Nat → List Int), RO w' m x' → Fr ksS w w' → x_le (hp w N) (hp w' N) := fun w' x' a f => h.le a (fun j hj => by
    rw [f j (by
      unfold ksS
      simp only [List.mem_cons, List.not_mem_nil, or_false]
      omega)]
    exact Nat.le_refl _)
  have I2 : RI x2 := ⟨by rw [e45]; exact SO2, by rw [e2 41 (by decide)]; exact hI.2.1, by rw [e2 28 (by decide)]; exact hI.2.2.1, by rw [e2 39 (by decide)]; exact hI.2.2.2⟩
  have X2 : ∀ j, ¬ j ∈ ksS → x2 j = x j := fun j hj => e2 j (fun z => hj (by rw [z]; decide))
  have d9 : (D.length : Int) ≤ 6 := by omega
  have d0 : (0 : Int) ≤ D.length := by omega
  by_cases hz : 0 < D.length ∧ E.length = 0
  · have hd : dfs (mtL D E) E.length D.length 0 (fun _ => []) = false := by
      obtain ⟨n, hn⟩ : ∃ n, D.length = n + 1 := ⟨D.length - 1, by omega⟩
      rw [hn, hz.2]
      rfl
    rw [hd]
    refine ⟨w2, x2, R2, I2, F2, X2, Xc.of rfl (by simp [lg_sl, Value.category]) (g0 _ (Gx.fin 40 Cs.tt (fun K _ => ?_))) (le w2 x2 R2 F2)⟩
    obtain ⟨n, hn⟩ : ∃ n : Int, n = (D.length : Int) := ⟨_, rfl⟩
    rw [← hn] at q2 d9 d0
    have c1' : ¬ n ≤ 0 := by omega
    have c2' : m 11 = 0 := by omega
    simp (disch := first | (refine c1_id ?_; assumption) | (refine c1_st rfl ?_; repeat (first | assumption | refine c1_st rfl ?_)) | omega) [nx_l, nx_r, nx_n, x_st, x_push, x_bin, x_div, x_un, x_dup, x_pop, x_dup2, x_goto, x_ifeq, x_ifne, x_iflt, x_ifge, x_ifgt, x_ifle, x_iceq, x_icne, x_iclt, x_icge, x_icgt, x_icle, x_ifnull, x_ifnonnull, x_ldi, x_lda, x_sti, x_sta, x_iinc, x_gf, x_pf, x_ald, x_ast, x_aln, x_len, x_cl_, x_cv, x_cs, x_rc, x_r0, x_isT, x_oi, x_rv, x_ri, x_ra, Value.category, t130_0, t130_1, t130_2, t130_3, t130_4, t130_7, t130_8, t130_9, t130_10, t130_11, t130_14, t130_15, t130_18, t130_19, t130_22, t130_23, t130_26, t130_28, t130_29, t130_30, t130_31, t130_34, t130_35, t130_36, t130_37, t130_40, t130_43, t130_44, t130_47, t130_48, t130_49, t130_50, t130_51, t130_54, t130_55, t130_58, t130_61, t130_62, t130_63, t130_64, t130_65, t130_66, t130_67, t130_70, t130_71, t130_74, t130_75, t130_76, t130_77, t130_80, t130_83, t130_84, t130_85, t130_86, t130_89, t130_90, t130_91, t130_92, t130_95, t130_97, t130_99, t130_100, t130_103, t130_104, t130_105, t130_107, t130_108, t130_109, t130_111, t130_113, t130_114, t130_117, t130_118, t130_121, t130_123, t130_124, t130_125, t130_128, t130_131, t130_133, t130_135, t130_137, t130_140, t130_141, t130_144, t130_146, t130_147, t130_148, t130_151, t130_152, t130_153, t130_156, t130_157, t130_160, t130_162, t130_163, t130_164, t130_167, t130_170, t130_172, t130_175, t130_176, t130_179, t130_180, t130_181, t130_182, t130_185, t130_186, t130_189, t130_191, t130_192, t130_193, t130_194, t130_195, t130_196, t130_199, t130_200, lk_s, hp_get, hp_set, uH_at, uH_ne, uH_upd, uH_swap, iZ_add, iZ_sub, iZ_mul, iZ_neg, iZ_lt, iZ_le, iZ_eq, iZ_div, iZ_of, ix_Z, gZ_map, gZ_mapI, gZ_map', le_0, le_s, sZ_map, sZ_len, bZ_0, bZ_inj, bZ_t, bZ_f, nr_i, nr_0, nr_1, nr_b, ft_i, ft_b, ft_0, ft_1, zl_0, zl_1, zl_88, mF_len, mg_0, mg_1, mg_2, mg_3, mg_4, mg_5, mg_6, mg_7, mg_8, mg_9, mg_10, mg_11, mg_12, mg_13, mg_14, mg_15, mg_16, mg_17, mg_18, mg_19, mg_20, mg_21, mg_22, mg_23, mg_24, mg_25, mg_26, mg_27, mg_28, mg_29, mg_30, mg_31, mg_32, mg_33, mg_34, mg_35, mg_36, mg_37, mg_38, ms_0, ms_1, ms_2, ms_13, ms_14, ms_15, ms_16, ms_21, ms_22, ms_23, ms_24, ms_28, ms_36, ms_37, ms_38, st_at, st_ne, st_st, st_swap, q0, q1, q2, hm2, c1', c2', -List.filter_filter, -List.getElem?_map, -List.getD_eq_getElem?_getD]
  · obtain ⟨n, hn⟩ : ∃ n : Int, n = (D.length : Int) := ⟨_, rfl⟩
    have C3 := c1_st (i := 3) (v := .int (iZ 0)) rfl A2
    have h51 : w2 51 = cI 0 (x 51) := by
      have := (R2.2 51 (by decide) (by decide)).1
      rw [e2 51 (by decide)] at this
      exact this
    have n51 : (x 51).length = 6 := (h.2 51 (by decide) (by decide)).2
    obtain ⟨lvE, hE', sE, gF⟩ := l130_65 (w := w2) (m := m) (d + 5) hN hm2 n (by omega) D.length 0 (x 51) _ n51 (by omega) (by omega) C3 (by rw [lk_s A2]; exact q0) (by rw [lk_s A2]; rfl) (by rw [lk_s A2, q2, hn]; rfl)
    rw [uH_self h51] at gF
    obtain ⟨Q, hQ⟩ : ∃ Q, Q = cpl 0 (fun _ => 0) D.length 0 (x 51) := ⟨_, rfl⟩
    have nQ : Q.length = 6 := by rw [hQ, cpl_len]; exact n51
    rw [← hQ] at gF
    obtain ⟨w3, hw3⟩ : ∃ w3, w3 = uH w2 51 (cI 0 Q) := ⟨_, rfl⟩
    rw [← hw3] at gF
    have R3 : RO w3 m (ux x2 51 Q) := by rw [hw3]; exact R2.set (j := 51) (by decide) nQ
    have C4 := c1_st (i := 3) (v := .int (iZ 1)) rfl hE'
    have z0 : x_lk lvE 0 = some (.ref 30) := by rw [sE 0 (by decide), lk_s A2]; exact q0
    have z1 : x_lk lvE 1 = some (.int (iZ i)) := by rw [sE 1 (by decide), lk_s A2]; exact q1
    have z2 : x_lk lvE 2 = some (.int (iZ (D.length : Int))) := by rw [sE 2 (by decide), lk_s A2]; exact q2
    obtain ⟨w4, x4, p1, p2, p3, p4⟩ := L130 d hN a6 gE1 e11 (by omega) _ (List.replicate D.length 0) w3 _ ((3, .int (iZ 1)) :: lvE.filter (x_keep 3)) R3 (sp.mv (fun q _ q2 => ux_ne q2)) (by rw [List.length_replicate]) (fun q hq => by
      rw [List.length_replicate] at hq
      rw [ux_at, hQ, cpl_at (by omega) (by omega) (by omega), if_pos (by omega), List.getD_eq_getElem?_getD, List.getElem?_replicate, if_pos hq]
      rfl) (fun c hcm => by
      have := List.eq_of_mem_replicate hcm
      have := List.length_pos_of_mem hcm
      rw [List.length_replicate] at this
      omega) (fun ds _ _ z => by
      rw [vl_zero] at z
      omega) (Nat.le_refl _) C4 (by rw [lk_s hE']; exact z0) (by rw [lk_s hE']; exact z1) (by rw [lk_s hE']; exact z2) (by rw [lk_s hE']; rfl)
    have F4 : Fr ksS w w4 := by
      refine Fr.tr (w' := w3) ?_ (p2.sub (fun j hj => by
        unfold ksS
        simp only [List.mem_cons, List.not_mem_nil, or_false] at hj ⊢
        omega))
      rw [hw3]
      exact F2.up (by decide)
    have nS : ∀ j, ¬ j ∈ ksS → j ≠ 45 ∧ j ≠ 46 ∧ j ≠ 51 := fun j hj => by
      unfold ksS at hj
      simp only [List.mem_cons, List.not_mem_nil, or_false, not_or] at hj
      exact hj
    refine ⟨w4, x4, p1, I2.mv ?_ ?_ ?_ ?_, F4, fun j hj => ?_, Xc.of rfl (by simp [lg_sl, Value.category]) (g0 _ (Gx.run 40 Cs.tt (fun K _ => ?_) (gF _ (Gx.run 20 Cs.tt (fun K _ => ?_) p4)))) (le w4 x4 p1 F4)⟩
    · rw [p3 45 (by decide) (by decide), ux_ne (by decide)]
    · rw [p3 41 (by decide) (by decide), ux_ne (by decide)]
    · rw [p3 28 (by decide) (by decide), ux_ne (by decide)]
    · rw [p3 39 (by decide) (by decide), ux_ne (by decide)]
    · rw [p3 j (nS j hj).2.1 (nS j hj).2.2, ux_ne (nS j hj).2.2]
      exact X2 j hj
    · rw [← hn] at q2 d9 d0
      have mr : m 11 < 100 := by omega
      have mr0 : 0 ≤ m 11 := by omega
      by_cases c1' : n ≤ 0
      · simp (disch := first | (refine c1_id ?_; assumption) | (refine c1_st rfl ?_; repeat (first | assumption | refine c1_st rfl ?_)) | omega) [nx_l, nx_r, nx_n, x_st, x_push, x_bin, x_div, x_un, x_dup, x_pop, x_dup2, x_goto, x_ifeq, x_ifne, x_iflt, x_ifge, x_ifgt, x_ifle, x_iceq, x_icne, x_iclt, x_icge, x_icgt, x_icle, x_ifnull, x_ifnonnull, x_ldi, x_lda, x_sti, x_sta, x_iinc, x_gf, x_pf, x_ald, x_ast, x_aln, x_len, x_cl_, x_cv, x_cs, x_rc, x_r0, x_isT, x_oi, x_rv, x_ri, x_ra, Value.category, t130_0, t130_1, t130_2, t130_3, t130_4, t130_7, t130_8, t130_9, t130_10, t130_11, t130_14, t130_15, t130_18, t130_19, t130_22, t130_23, t130_26, t130_28, t130_29, t130_30, t130_31, t130_34, t130_35, t130_36, t130_37, t130_40, t130_43, t130_44, t130_47, t130_48, t130_49, t130_50, t130_51, t130_54, t130_55, t130_58, t130_61, t130_62, t130_63, t130_64, t130_65, t130_66, t130_67, t130_70, t130_71, t130_74, t130_75, t130_76, t130_77, t130_80, t130_83, t130_84, t130_85, t130_86, t130_89, t130_90, t130_91, t130_92, t130_95, t130_97, t130_99, t130_100, t130_103, t130_104, t130_105, t130_107, t130_108, t130_109, t130_111, t130_113, t130_114, t130_117, t130_118, t130_121, t130_123, t130_124, t130_125, t130_128, t130_131, t130_133, t130_135, t130_137, t130_140, t130_141, t130_144, t130_146, t130_147, t130_148, t130_151, t130_152, t130_153, t130_156, t130_157, t130_160, t130_162, t130_163, t130_164, t130_167, t130_170, t130_172, t130_175, t130_176, t130_179, t130_180, t130_181, t130_182, t130_185, t130_186, t130_189, t130_191, t130_192, t130_193, t130_194, t130_195, t130_196, t130_199, t130_200, lk_s, hp_get, hp_set, uH_at, uH_ne, uH_upd, uH_swap, iZ_add, iZ_sub, iZ_mul, iZ_neg, iZ_lt, iZ_le, iZ_eq, iZ_div, iZ_of, ix_Z, gZ_map, gZ_mapI, gZ_map', le_0, le_s, sZ_map, sZ_len, bZ_0, bZ_inj, bZ_t, bZ_f, nr_i, nr_0, nr_1, nr_b, ft_i, ft_b, ft_0, ft_1, zl_0, zl_1, zl_88, mF_len, mg_0, mg_1, mg_2, mg_3, mg_4, mg_5, mg_6, mg_7, mg_8, mg_9, mg_10, mg_11, mg_12, mg_13, mg_14, mg_15, mg_16, mg_17, mg_18, mg_19, mg_20, mg_21, mg_22, mg_23, mg_24, mg_25, mg_26, mg_27, mg_28, mg_29, mg_30, mg_31, mg_32, mg_33, mg_34, mg_35, mg_36, mg_37, mg_38, ms_0, ms_1, ms_2, ms_13, ms_14, ms_15, ms_16, ms_21, ms_22, ms_23, ms_24, ms_28, ms_36, ms_37, ms_38, st_at, st_ne, st_st, st_swap, q0, q1, q2, hm2, c1', -List.filter_filter, -List.getElem?_map, -List.getD_eq_getElem?_getD]
      · have c2' : ¬ m 11 = 0 := fun z => hz ⟨by omega, by omega⟩
        simp (disch := first | (refine c1_id ?_; assumption) | (refine c1_st rfl ?_; repeat (first | assumption | refine c1_st rfl ?_)) | omega) [nx_l, nx_r, nx_n, x_st, x_push, x_bin, x_div, x_un, x_dup, x_pop, x_dup2, x_goto, x_ifeq, x_ifne, x_iflt, x_ifge, x_ifgt, x_ifle, x_iceq, x_icne, x_iclt, x_icge, x_icgt, x_icle, x_ifnull, x_ifnonnull, x_ldi, x_lda, x_sti, x_sta, x_iinc, x_gf, x_pf, x_ald, x_ast, x_aln, x_len, x_cl_, x_cv, x_cs, x_rc, x_r0, x_isT, x_oi, x_rv, x_ri, x_ra, Value.category, t130_0, t130_1, t130_2, t130_3, t130_4, t130_7, t130_8, t130_9, t130_10, t130_11, t130_14, t130_15, t130_18, t130_19, t130_22, t130_23, t130_26, t130_28, t130_29, t130_30, t130_31, t130_34, t130_35, t130_36, t130_37, t130_40, t130_43, t130_44, t130_47, t130_48, t130_49, t130_50, t130_51, t130_54, t130_55, t130_58, t130_61, t130_62, t130_63, t130_64, t130_65, t130_66, t130_67, t130_70, t130_71, t130_74, t130_75, t130_76, t130_77, t130_80, t130_83, t130_84, t130_85, t130_86, t130_89, t130_90, t130_91, t130_92, t130_95, t130_97, t130_99, t130_100, t130_103, t130_104, t130_105, t130_107, t130_108, t130_109, t130_111, t130_113, t130_114, t130_117, t130_118, t130_121, t130_123, t130_124, t130_125, t130_128, t130_131, t130_133, t130_135, t130_137, t130_140, t130_141, t130_144, t130_146, t130_147, t130_148, t130_151, t130_152, t130_153, t130_156, t130_157, t130_160, t130_162, t130_163, t130_164, t130_167, t130_170, t130_172, t130_175, t130_176, t130_179, t130_180, t130_181, t130_182, t130_185, t130_186, t130_189, t130_191, t130_192, t130_193, t130_194, t130_195, t130_196, t130_199, t130_200, lk_s, hp_get, hp_set, uH_at, uH_ne, uH_upd, uH_swap, iZ_add, iZ_sub, iZ_mul, iZ_neg, iZ_lt, iZ_le, iZ_eq, iZ_div, iZ_of, ix_Z, gZ_map, gZ_mapI, gZ_map', le_0, le_s, sZ_map, sZ_len, bZ_0, bZ_inj, bZ_t, bZ_f, nr_i, nr_0, nr_1, nr_b, ft_i, ft_b, ft_0, ft_1, zl_0, zl_1, zl_88, mF_len, mg_0, mg_1, mg_2, mg_3, mg_4, mg_5, mg_6, mg_7, mg_8, mg_9, mg_10, mg_11, mg_12, mg_13, mg_14, mg_15, mg_16, mg_17, mg_18, mg_19, mg_20, mg_21, mg_22, mg_23, mg_24, mg_25, mg_26, mg_27, mg_28, mg_29, mg_30, mg_31, mg_32, mg_33, mg_34, mg_35, mg_36, mg_37, mg_38, ms_0, ms_1, ms_2, ms_13, ms_14, ms_15, ms_16, ms_21, ms_22, ms_23, ms_24, ms_28, ms_36, ms_37, ms_38, st_at, st_ne, st_st, st_swap, q0, q1, q2, hm2, c1', c2', -List.filter_filter, -List.getElem?_map, -List.getD_eq_getElem?_getD]
    · simp (disch := first | (refine c1_id ?_; assumption) | (refine c1_st rfl ?_; repeat (first | assumption | refine c1_st rfl ?_)) | omega) [nx_l, nx_r, nx_n, x_st, x_push, x_bin, x_div, x_un, x_dup, x_pop, x_dup2, x_goto, x_ifeq, x_ifne, x_iflt, x_ifge, x_ifgt, x_ifle, x_iceq, x_icne, x_iclt, x_icge, x_icgt, x_icle, x_ifnull, x_ifnonnull, x_ldi, x_lda, x_sti, x_sta, x_iinc, x_gf, x_pf, x_ald, x_ast, x_aln, x_len, x_cl_, x_cv, x_cs, x_rc, x_r0, x_isT, x_oi, x_rv, x_ri, x_ra, Value.category, t130_0, t130_1, t130_2, t130_3, t130_4, t130_7, t130_8, t130_9, t130_10, t130_11, t130_14, t130_15, t130_18, t130_19, t130_22, t130_23, t130_26, t130_28, t130_29, t130_30, t130_31, t130_34, t130_35, t130_36, t130_37, t130_40, t130_43, t130_44, t130_47, t130_48, t130_49, t130_50, t130_51, t130_54, t130_55, t130_58, t130_61, t130_62, t130_63, t130_64, t130_65, t130_66, t130_67, t130_70, t130_71, t130_74, t130_75, t130_76, t130_77, t130_80, t130_83, t130_84, t130_85, t130_86, t130_89, t130_90, t130_91, t130_92, t130_95, t130_97, t130_99, t130_100, t130_103, t130_104, t130_105, t130_107, t130_108, t130_109, t130_111, t130_113, t130_114, t130_117, t130_118, t130_121, t130_123, t130_124, t130_125, t130_128, t130_131, t130_133, t130_135, t130_137, t130_140, t130_141, t130_144, t130_146, t130_147, t130_148, t130_151, t130_152, t130_153, t130_156, t130_157, t130_160, t130_162, t130_163, t130_164, t130_167, t130_170, t130_172, t130_175, t130_176, t130_179, t130_180, t130_181, t130_182, t130_185, t130_186, t130_189, t130_191, t130_192, t130_193, t130_194, t130_195, t130_196, t130_199, t130_200, lk_s, hp_get, hp_set, uH_at, uH_ne, uH_upd, uH_swap, iZ_add, iZ_sub, iZ_mul, iZ_neg, iZ_lt, iZ_le, iZ_eq, iZ_div, iZ_of, ix_Z, gZ_map, gZ_mapI, gZ_map', le_0, le_s, sZ_map, sZ_len, bZ_0, bZ_inj, bZ_t, bZ_f, nr_i, nr_0, nr_1, nr_b, ft_i, ft_b, ft_0, ft_1, zl_0, zl_1, zl_88, mF_len, mg_0, mg_1, mg_2, mg_3, mg_4, mg_5, mg_6, mg_7, mg_8, mg_9, mg_10, mg_11, mg_12, mg_13, mg_14, mg_15, mg_16, mg_17, mg_18, mg_19, mg_20, mg_21, mg_22, mg_23, mg_24, mg_25, mg_26, mg_27, mg_28, mg_29, mg_30, mg_31, mg_32, mg_33, mg_34, mg_35, mg_36, mg_37, mg_38, ms_0, ms_1, ms_2, ms_13, ms_14, ms_15, ms_16, ms_21, ms_22, ms_23, ms_24, ms_28, ms_36, ms_37, ms_38, st_at, st_ne, st_st, st_swap, z0, -List.filter_filter, -List.getElem?_map, -List.getD_eq_getElem?_getD]
end SP
