/-! the reference: a letter of a clause's text -/
theorem f140_0 : x_fetch q_k140 0 = x_lda 1 0 := rfl
theorem t140_0 (C : xF) (s n : Nat) (z : xS) : x_to q_k140 C s (n + 1) 0 z = x_nx q_k140 C s n ((x_lda 1 0) C z) := x_to_at f140_0 C s n z
theorem f140_1 : x_fetch q_k140 1 = x_st (x_push 2 (.int (0))) := rfl
theorem t140_1 (C : xF) (s n : Nat) (z : xS) : x_to q_k140 C s (n + 1) 1 z = x_nx q_k140 C s n ((x_st (x_push 2 (.int (0)))) C z) := x_to_at f140_1 C s n z
theorem f140_2 : x_fetch q_k140 2 = x_pf 5 8 0 (.int) := rfl
theorem t140_2 (C : xF) (s n : Nat) (z : xS) : x_to q_k140 C s (n + 1) 2 z = x_nx q_k140 C s n ((x_pf 5 8 0 (.int)) C z) := x_to_at f140_2 C s n z
theorem f140_5 : x_fetch q_k140 5 = x_lda 6 0 := rfl
theorem t140_5 (C : xF) (s n : Nat) (z : xS) : x_to q_k140 C s (n + 1) 5 z = x_nx q_k140 C s n ((x_lda 6 0) C z) := x_to_at f140_5 C s n z
theorem f140_6 : x_fetch q_k140 6 = x_ldi 7 1 := rfl
theorem t140_6 (C : xF) (s n : Nat) (z : xS) : x_to q_k140 C s (n + 1) 6 z = x_nx q_k140 C s n ((x_ldi 7 1) C z) := x_to_at f140_6 C s n z
theorem f140_7 : x_fetch q_k140 7 = x_cv 10 134 2 8 := rfl
theorem t140_7 (C : xF) (s n : Nat) (z : xS) : x_to q_k140 C s (n + 1) 7 z = x_nx q_k140 C s n ((x_cv 10 134 2 8) C z) := x_to_at f140_7 C s n z
theorem f140_10 : x_fetch q_k140 10 = x_st (x_ifeq 17 13) := rfl
theorem t140_10 (C : xF) (s n : Nat) (z : xS) : x_to q_k140 C s (n + 1) 10 z = x_nx q_k140 C s n ((x_st (x_ifeq 17 13)) C z) := x_to_at f140_10 C s n z
theorem f140_13 : x_fetch q_k140 13 = x_ldi 14 2 := rfl
theorem t140_13 (C : xF) (s n : Nat) (z : xS) : x_to q_k140 C s (n + 1) 13 z = x_nx q_k140 C s n ((x_ldi 14 2) C z) := x_to_at f140_13 C s n z
theorem f140_14 : x_fetch q_k140 14 = x_st (x_ifge 19 17) := rfl
theorem t140_14 (C : xF) (s n : Nat) (z : xS) : x_to q_k140 C s (n + 1) 14 z = x_nx q_k140 C s n ((x_st (x_ifge 19 17)) C z) := x_to_at f140_14 C s n z
theorem f140_17 : x_fetch q_k140 17 = x_st (x_push 18 (.int (-1))) := rfl
theorem t140_17 (C : xF) (s n : Nat) (z : xS) : x_to q_k140 C s (n + 1) 17 z = x_nx q_k140 C s n ((x_st (x_push 18 (.int (-1)))) C z) := x_to_at f140_17 C s n z
theorem f140_18 : x_fetch q_k140 18 = x_ri (.int) := rfl
theorem t140_18 (C : xF) (s n : Nat) (z : xS) : x_to q_k140 C s (n + 1) 18 z = x_nx q_k140 C s n ((x_ri (.int)) C z) := x_to_at f140_18 C s n z
theorem f140_19 : x_fetch q_k140 19 = x_lda 20 0 := rfl
theorem t140_19 (C : xF) (s n : Nat) (z : xS) : x_to q_k140 C s (n + 1) 19 z = x_nx q_k140 C s n ((x_lda 20 0) C z) := x_to_at f140_19 C s n z
theorem f140_20 : x_fetch q_k140 20 = x_st (x_push 21 (.int (0))) := rfl
theorem t140_20 (C : xF) (s n : Nat) (z : xS) : x_to q_k140 C s (n + 1) 20 z = x_nx q_k140 C s n ((x_st (x_push 21 (.int (0)))) C z) := x_to_at f140_20 C s n z
theorem f140_21 : x_fetch q_k140 21 = x_pf 24 8 36 (.int) := rfl
theorem t140_21 (C : xF) (s n : Nat) (z : xS) : x_to q_k140 C s (n + 1) 21 z = x_nx q_k140 C s n ((x_pf 24 8 36 (.int)) C z) := x_to_at f140_21 C s n z
theorem f140_24 : x_fetch q_k140 24 = x_lda 25 0 := rfl
theorem t140_24 (C : xF) (s n : Nat) (z : xS) : x_to q_k140 C s (n + 1) 24 z = x_nx q_k140 C s n ((x_lda 25 0) C z) := x_to_at f140_24 C s n z
theorem f140_25 : x_fetch q_k140 25 = x_ldi 26 2 := rfl
theorem t140_25 (C : xF) (s n : Nat) (z : xS) : x_to q_k140 C s (n + 1) 25 z = x_nx q_k140 C s n ((x_ldi 26 2) C z) := x_to_at f140_25 C s n z
theorem f140_26 : x_fetch q_k140 26 = x_pf 29 8 37 (.int) := rfl
theorem t140_26 (C : xF) (s n : Nat) (z : xS) : x_to q_k140 C s (n + 1) 26 z = x_nx q_k140 C s n ((x_pf 29 8 37 (.int)) C z) := x_to_at f140_26 C s n z
theorem f140_29 : x_fetch q_k140 29 = x_lda 30 0 := rfl
theorem t140_29 (C : xF) (s n : Nat) (z : xS) : x_to q_k140 C s (n + 1) 29 z = x_nx q_k140 C s n ((x_lda 30 0) C z) := x_to_at f140_29 C s n z
theorem f140_30 : x_fetch q_k140 30 = x_st (x_push 31 (.int (-1))) := rfl
theorem t140_30 (C : xF) (s n : Nat) (z : xS) : x_to q_k140 C s (n + 1) 30 z = x_nx q_k140 C s n ((x_st (x_push 31 (.int (-1)))) C z) := x_to_at f140_30 C s n z
theorem f140_31 : x_fetch q_k140 31 = x_pf 34 8 38 (.int) := rfl
theorem t140_31 (C : xF) (s n : Nat) (z : xS) : x_to q_k140 C s (n + 1) 31 z = x_nx q_k140 C s n ((x_pf 34 8 38 (.int)) C z) := x_to_at f140_31 C s n z
theorem f140_34 : x_fetch q_k140 34 = x_lda 35 0 := rfl
theorem t140_34 (C : xF) (s n : Nat) (z : xS) : x_to q_k140 C s (n + 1) 34 z = x_nx q_k140 C s n ((x_lda 35 0) C z) := x_to_at f140_34 C s n z
theorem f140_35 : x_fetch q_k140 35 = x_gf 38 8 5 := rfl
theorem t140_35 (C : xF) (s n : Nat) (z : xS) : x_to q_k140 C s (n + 1) 35 z = x_nx q_k140 C s n ((x_gf 38 8 5) C z) := x_to_at f140_35 C s n z
theorem f140_38 : x_fetch q_k140 38 = x_ldi 39 1 := rfl
theorem t140_38 (C : xF) (s n : Nat) (z : xS) : x_to q_k140 C s (n + 1) 38 z = x_nx q_k140 C s n ((x_ldi 39 1) C z) := x_to_at f140_38 C s n z
theorem f140_39 : x_fetch q_k140 39 = x_ald 40 0 := rfl
theorem t140_39 (C : xF) (s n : Nat) (z : xS) : x_to q_k140 C s (n + 1) 39 z = x_nx q_k140 C s n ((x_ald 40 0) C z) := x_to_at f140_39 C s n z
theorem f140_40 : x_fetch q_k140 40 = x_st (x_ifne 49 43) := rfl
theorem t140_40 (C : xF) (s n : Nat) (z : xS) : x_to q_k140 C s (n + 1) 40 z = x_nx q_k140 C s n ((x_st (x_ifne 49 43)) C z) := x_to_at f140_40 C s n z
theorem f140_43 : x_fetch q_k140 43 = x_lda 44 0 := rfl
theorem t140_43 (C : xF) (s n : Nat) (z : xS) : x_to q_k140 C s (n + 1) 43 z = x_nx q_k140 C s n ((x_lda 44 0) C z) := x_to_at f140_43 C s n z
theorem f140_44 : x_fetch q_k140 44 = x_st (x_push 46 (.int (35))) := rfl
theorem t140_44 (C : xF) (s n : Nat) (z : xS) : x_to q_k140 C s (n + 1) 44 z = x_nx q_k140 C s n ((x_st (x_push 46 (.int (35)))) C z) := x_to_at f140_44 C s n z
theorem f140_46 : x_fetch q_k140 46 = x_cv 49 137 2 8 := rfl
theorem t140_46 (C : xF) (s n : Nat) (z : xS) : x_to q_k140 C s (n + 1) 46 z = x_nx q_k140 C s n ((x_cv 49 137 2 8) C z) := x_to_at f140_46 C s n z
theorem f140_49 : x_fetch q_k140 49 = x_st (x_push 50 (.int (0))) := rfl
theorem t140_49 (C : xF) (s n : Nat) (z : xS) : x_to q_k140 C s (n + 1) 49 z = x_nx q_k140 C s n ((x_st (x_push 50 (.int (0)))) C z) := x_to_at f140_49 C s n z
theorem f140_50 : x_fetch q_k140 50 = x_sti 51 3 := rfl
theorem t140_50 (C : xF) (s n : Nat) (z : xS) : x_to q_k140 C s (n + 1) 50 z = x_nx q_k140 C s n ((x_sti 51 3) C z) := x_to_at f140_50 C s n z
theorem f140_51 : x_fetch q_k140 51 = x_ldi 52 3 := rfl
theorem t140_51 (C : xF) (s n : Nat) (z : xS) : x_to q_k140 C s (n + 1) 51 z = x_nx q_k140 C s n ((x_ldi 52 3) C z) := x_to_at f140_51 C s n z
theorem f140_52 : x_fetch q_k140 52 = x_lda 53 0 := rfl
theorem t140_52 (C : xF) (s n : Nat) (z : xS) : x_to q_k140 C s (n + 1) 52 z = x_nx q_k140 C s n ((x_lda 53 0) C z) := x_to_at f140_52 C s n z
theorem f140_53 : x_fetch q_k140 53 = x_gf 56 8 5 := rfl
theorem t140_53 (C : xF) (s n : Nat) (z : xS) : x_to q_k140 C s (n + 1) 53 z = x_nx q_k140 C s n ((x_gf 56 8 5) C z) := x_to_at f140_53 C s n z
theorem f140_56 : x_fetch q_k140 56 = x_ldi 57 1 := rfl
theorem t140_56 (C : xF) (s n : Nat) (z : xS) : x_to q_k140 C s (n + 1) 56 z = x_nx q_k140 C s n ((x_ldi 57 1) C z) := x_to_at f140_56 C s n z
theorem f140_57 : x_fetch q_k140 57 = x_ald 58 0 := rfl
theorem t140_57 (C : xF) (s n : Nat) (z : xS) : x_to q_k140 C s (n + 1) 57 z = x_nx q_k140 C s n ((x_ald 58 0) C z) := x_to_at f140_57 C s n z
theorem f140_58 : x_fetch q_k140 58 = x_st (x_icge 192 61) := rfl
theorem t140_58 (C : xF) (s n : Nat) (z : xS) : x_to q_k140 C s (n + 1) 58 z = x_nx q_k140 C s n ((x_st (x_icge 192 61)) C z) := x_to_at f140_58 C s n z
theorem f140_61 : x_fetch q_k140 61 = x_st (x_push 63 (.int (44))) := rfl
theorem t140_61 (C : xF) (s n : Nat) (z : xS) : x_to q_k140 C s (n + 1) 61 z = x_nx q_k140 C s n ((x_st (x_push 63 (.int (44)))) C z) := x_to_at f140_61 C s n z
theorem f140_63 : x_fetch q_k140 63 = x_ldi 64 1 := rfl
theorem t140_63 (C : xF) (s n : Nat) (z : xS) : x_to q_k140 C s (n + 1) 63 z = x_nx q_k140 C s n ((x_ldi 64 1) C z) := x_to_at f140_63 C s n z
theorem f140_64 : x_fetch q_k140 64 = x_st (x_bin 65 (fun a b => a * b)) := rfl
theorem t140_64 (C : xF) (s n : Nat) (z : xS) : x_to q_k140 C s (n + 1) 64 z = x_nx q_k140 C s n ((x_st (x_bin 65 (fun a b => a * b))) C z) := x_to_at f140_64 C s n z
theorem f140_65 : x_fetch q_k140 65 = x_lda 66 0 := rfl
theorem t140_65 (C : xF) (s n : Nat) (z : xS) : x_to q_k140 C s (n + 1) 65 z = x_nx q_k140 C s n ((x_lda 66 0) C z) := x_to_at f140_65 C s n z
theorem f140_66 : x_fetch q_k140 66 = x_gf 69 8 4 := rfl
theorem t140_66 (C : xF) (s n : Nat) (z : xS) : x_to q_k140 C s (n + 1) 66 z = x_nx q_k140 C s n ((x_gf 69 8 4) C z) := x_to_at f140_66 C s n z
theorem f140_69 : x_fetch q_k140 69 = x_st (x_push 71 (.int (7))) := rfl
theorem t140_69 (C : xF) (s n : Nat) (z : xS) : x_to q_k140 C s (n + 1) 69 z = x_nx q_k140 C s n ((x_st (x_push 71 (.int (7)))) C z) := x_to_at f140_69 C s n z
theorem f140_71 : x_fetch q_k140 71 = x_ldi 72 1 := rfl
theorem t140_71 (C : xF) (s n : Nat) (z : xS) : x_to q_k140 C s (n + 1) 71 z = x_nx q_k140 C s n ((x_ldi 72 1) C z) := x_to_at f140_71 C s n z
theorem f140_72 : x_fetch q_k140 72 = x_st (x_bin 73 (fun a b => a * b)) := rfl
theorem t140_72 (C : xF) (s n : Nat) (z : xS) : x_to q_k140 C s (n + 1) 72 z = x_nx q_k140 C s n ((x_st (x_bin 73 (fun a b => a * b))) C z) := x_to_at f140_72 C s n z
theorem f140_73 : x_fetch q_k140 73 = x_ldi 74 3 := rfl
theorem t140_73 (C : xF) (s n : Nat) (z : xS) : x_to q_k140 C s (n + 1) 73 z = x_nx q_k140 C s n ((x_ldi 74 3) C z) := x_to_at f140_73 C s n z
theorem f140_74 : x_fetch q_k140 74 = x_st (x_bin 75 (fun a b => a + b)) := rfl
theorem t140_74 (C : xF) (s n : Nat) (z : xS) : x_to q_k140 C s (n + 1) 74 z = x_nx q_k140 C s n ((x_st (x_bin 75 (fun a b => a + b))) C z) := x_to_at f140_74 C s n z
theorem f140_75 : x_fetch q_k140 75 = x_ald 76 0 := rfl
theorem t140_75 (C : xF) (s n : Nat) (z : xS) : x_to q_k140 C s (n + 1) 75 z = x_nx q_k140 C s n ((x_ald 76 0) C z) := x_to_at f140_75 C s n z
theorem f140_76 : x_fetch q_k140 76 = x_st (x_bin 77 (fun a b => a + b)) := rfl
theorem t140_76 (C : xF) (s n : Nat) (z : xS) : x_to q_k140 C s (n + 1) 76 z = x_nx q_k140 C s n ((x_st (x_bin 77 (fun a b => a + b))) C z) := x_to_at f140_76 C s n z
theorem f140_77 : x_fetch q_k140 77 = x_sti 79 4 := rfl
theorem t140_77 (C : xF) (s n : Nat) (z : xS) : x_to q_k140 C s (n + 1) 77 z = x_nx q_k140 C s n ((x_sti 79 4) C z) := x_to_at f140_77 C s n z
theorem f140_79 : x_fetch q_k140 79 = x_st (x_push 81 (.int (44))) := rfl
theorem t140_79 (C : xF) (s n : Nat) (z : xS) : x_to q_k140 C s (n + 1) 79 z = x_nx q_k140 C s n ((x_st (x_push 81 (.int (44)))) C z) := x_to_at f140_79 C s n z
theorem f140_81 : x_fetch q_k140 81 = x_ldi 82 1 := rfl
theorem t140_81 (C : xF) (s n : Nat) (z : xS) : x_to q_k140 C s (n + 1) 81 z = x_nx q_k140 C s n ((x_ldi 82 1) C z) := x_to_at f140_81 C s n z
theorem f140_82 : x_fetch q_k140 82 = x_st (x_bin 83 (fun a b => a * b)) := rfl
theorem t140_82 (C : xF) (s n : Nat) (z : xS) : x_to q_k140 C s (n + 1) 82 z = x_nx q_k140 C s n ((x_st (x_bin 83 (fun a b => a * b))) C z) := x_to_at f140_82 C s n z
theorem f140_83 : x_fetch q_k140 83 = x_lda 84 0 := rfl
theorem t140_83 (C : xF) (s n : Nat) (z : xS) : x_to q_k140 C s (n + 1) 83 z = x_nx q_k140 C s n ((x_lda 84 0) C z) := x_to_at f140_83 C s n z
theorem f140_84 : x_fetch q_k140 84 = x_gf 87 8 4 := rfl
theorem t140_84 (C : xF) (s n : Nat) (z : xS) : x_to q_k140 C s (n + 1) 84 z = x_nx q_k140 C s n ((x_gf 87 8 4) C z) := x_to_at f140_84 C s n z
theorem f140_87 : x_fetch q_k140 87 = x_st (x_push 89 (.int (7))) := rfl
theorem t140_87 (C : xF) (s n : Nat) (z : xS) : x_to q_k140 C s (n + 1) 87 z = x_nx q_k140 C s n ((x_st (x_push 89 (.int (7)))) C z) := x_to_at f140_87 C s n z
theorem f140_89 : x_fetch q_k140 89 = x_ldi 90 1 := rfl
theorem t140_89 (C : xF) (s n : Nat) (z : xS) : x_to q_k140 C s (n + 1) 89 z = x_nx q_k140 C s n ((x_ldi 90 1) C z) := x_to_at f140_89 C s n z
theorem f140_90 : x_fetch q_k140 90 = x_st (x_bin 91 (fun a b => a * b)) := rfl
theorem t140_90 (C : xF) (s n : Nat) (z : xS) : x_to q_k140 C s (n + 1) 90 z = x_nx q_k140 C s n ((x_st (x_bin 91 (fun a b => a * b))) C z) := x_to_at f140_90 C s n z
theorem f140_91 : x_fetch q_k140 91 = x_ldi 92 3 := rfl
theorem t140_91 (C : xF) (s n : Nat) (z : xS) : x_to q_k140 C s (n + 1) 91 z = x_nx q_k140 C s n ((x_ldi 92 3) C z) := x_to_at f140_91 C s n z
theorem f140_92 : x_fetch q_k140 92 = x_st (x_bin 93 (fun a b => a + b)) := rfl
theorem t140_92 (C : xF) (s n : Nat) (z : xS) : x_to q_k140 C s (n + 1) 92 z = x_nx q_k140 C s n ((x_st (x_bin 93 (fun a b => a + b))) C z) := x_to_at f140_92 C s n z
theorem f140_93 : x_fetch q_k140 93 = x_st (x_push 94 (.int (1))) := rfl
theorem t140_93 (C : xF) (s n : Nat) (z : xS) : x_to q_k140 C s (n + 1) 93 z = x_nx q_k140 C s n ((x_st (x_push 94 (.int (1)))) C z) := x_to_at f140_93 C s n z
theorem f140_94 : x_fetch q_k140 94 = x_st (x_bin 95 (fun a b => a + b)) := rfl
theorem t140_94 (C : xF) (s n : Nat) (z : xS) : x_to q_k140 C s (n + 1) 94 z = x_nx q_k140 C s n ((x_st (x_bin 95 (fun a b => a + b))) C z) := x_to_at f140_94 C s n z
theorem f140_95 : x_fetch q_k140 95 = x_ald 96 0 := rfl
theorem t140_95 (C : xF) (s n : Nat) (z : xS) : x_to q_k140 C s (n + 1) 95 z = x_nx q_k140 C s n ((x_ald 96 0) C z) := x_to_at f140_95 C s n z
theorem f140_96 : x_fetch q_k140 96 = x_st (x_bin 97 (fun a b => a + b)) := rfl
theorem t140_96 (C : xF) (s n : Nat) (z : xS) : x_to q_k140 C s (n + 1) 96 z = x_nx q_k140 C s n ((x_st (x_bin 97 (fun a b => a + b))) C z) := x_to_at f140_96 C s n z
theorem f140_97 : x_fetch q_k140 97 = x_sti 99 5 := rfl
theorem t140_97 (C : xF) (s n : Nat) (z : xS) : x_to q_k140 C s (n + 1) 97 z = x_nx q_k140 C s n ((x_sti 99 5) C z) := x_to_at f140_97 C s n z
theorem f140_99 : x_fetch q_k140 99 = x_ldi 100 3 := rfl
theorem t140_99 (C : xF) (s n : Nat) (z : xS) : x_to q_k140 C s (n + 1) 99 z = x_nx q_k140 C s n ((x_ldi 100 3) C z) := x_to_at f140_99 C s n z
theorem f140_100 : x_fetch q_k140 100 = x_st (x_ifle 109 103) := rfl
theorem t140_100 (C : xF) (s n : Nat) (z : xS) : x_to q_k140 C s (n + 1) 100 z = x_nx q_k140 C s n ((x_st (x_ifle 109 103)) C z) := x_to_at f140_100 C s n z
theorem f140_103 : x_fetch q_k140 103 = x_lda 104 0 := rfl
theorem t140_103 (C : xF) (s n : Nat) (z : xS) : x_to q_k140 C s (n + 1) 103 z = x_nx q_k140 C s n ((x_lda 104 0) C z) := x_to_at f140_103 C s n z
theorem f140_104 : x_fetch q_k140 104 = x_st (x_push 106 (.int (124))) := rfl
theorem t140_104 (C : xF) (s n : Nat) (z : xS) : x_to q_k140 C s (n + 1) 104 z = x_nx q_k140 C s n ((x_st (x_push 106 (.int (124)))) C z) := x_to_at f140_104 C s n z
theorem f140_106 : x_fetch q_k140 106 = x_cv 109 137 2 8 := rfl
theorem t140_106 (C : xF) (s n : Nat) (z : xS) : x_to q_k140 C s (n + 1) 106 z = x_nx q_k140 C s n ((x_cv 109 137 2 8) C z) := x_to_at f140_106 C s n z
theorem f140_109 : x_fetch q_k140 109 = x_lda 110 0 := rfl
theorem t140_109 (C : xF) (s n : Nat) (z : xS) : x_to q_k140 C s (n + 1) 109 z = x_nx q_k140 C s n ((x_lda 110 0) C z) := x_to_at f140_109 C s n z
theorem f140_110 : x_fetch q_k140 110 = x_gf 113 8 8 := rfl
theorem t140_110 (C : xF) (s n : Nat) (z : xS) : x_to q_k140 C s (n + 1) 110 z = x_nx q_k140 C s n ((x_gf 113 8 8) C z) := x_to_at f140_110 C s n z
theorem f140_113 : x_fetch q_k140 113 = x_st (x_push 115 (.int (7))) := rfl
theorem t140_113 (C : xF) (s n : Nat) (z : xS) : x_to q_k140 C s (n + 1) 113 z = x_nx q_k140 C s n ((x_st (x_push 115 (.int (7)))) C z) := x_to_at f140_113 C s n z
theorem f140_115 : x_fetch q_k140 115 = x_ldi 116 1 := rfl
theorem t140_115 (C : xF) (s n : Nat) (z : xS) : x_to q_k140 C s (n + 1) 115 z = x_nx q_k140 C s n ((x_ldi 116 1) C z) := x_to_at f140_115 C s n z
theorem f140_116 : x_fetch q_k140 116 = x_st (x_bin 117 (fun a b => a * b)) := rfl
theorem t140_116 (C : xF) (s n : Nat) (z : xS) : x_to q_k140 C s (n + 1) 116 z = x_nx q_k140 C s n ((x_st (x_bin 117 (fun a b => a * b))) C z) := x_to_at f140_116 C s n z
theorem f140_117 : x_fetch q_k140 117 = x_ldi 118 3 := rfl
theorem t140_117 (C : xF) (s n : Nat) (z : xS) : x_to q_k140 C s (n + 1) 117 z = x_nx q_k140 C s n ((x_ldi 118 3) C z) := x_to_at f140_117 C s n z
theorem f140_118 : x_fetch q_k140 118 = x_st (x_bin 119 (fun a b => a + b)) := rfl
theorem t140_118 (C : xF) (s n : Nat) (z : xS) : x_to q_k140 C s (n + 1) 118 z = x_nx q_k140 C s n ((x_st (x_bin 119 (fun a b => a + b))) C z) := x_to_at f140_118 C s n z
theorem f140_119 : x_fetch q_k140 119 = x_ald 120 1 := rfl
theorem t140_119 (C : xF) (s n : Nat) (z : xS) : x_to q_k140 C s (n + 1) 119 z = x_nx q_k140 C s n ((x_ald 120 1) C z) := x_to_at f140_119 C s n z
theorem f140_120 : x_fetch q_k140 120 = x_st (x_ifeq 129 123) := rfl
theorem t140_120 (C : xF) (s n : Nat) (z : xS) : x_to q_k140 C s (n + 1) 120 z = x_nx q_k140 C s n ((x_st (x_ifeq 129 123)) C z) := x_to_at f140_120 C s n z
theorem f140_123 : x_fetch q_k140 123 = x_lda 124 0 := rfl
theorem t140_123 (C : xF) (s n : Nat) (z : xS) : x_to q_k140 C s (n + 1) 123 z = x_nx q_k140 C s n ((x_lda 124 0) C z) := x_to_at f140_123 C s n z
theorem f140_124 : x_fetch q_k140 124 = x_st (x_push 126 (.int (126))) := rfl
theorem t140_124 (C : xF) (s n : Nat) (z : xS) : x_to q_k140 C s (n + 1) 124 z = x_nx q_k140 C s n ((x_st (x_push 126 (.int (126)))) C z) := x_to_at f140_124 C s n z
theorem f140_126 : x_fetch q_k140 126 = x_cv 129 137 2 8 := rfl
theorem t140_126 (C : xF) (s n : Nat) (z : xS) : x_to q_k140 C s (n + 1) 126 z = x_nx q_k140 C s n ((x_cv 129 137 2 8) C z) := x_to_at f140_126 C s n z
theorem f140_129 : x_fetch q_k140 129 = x_lda 130 0 := rfl
theorem t140_129 (C : xF) (s n : Nat) (z : xS) : x_to q_k140 C s (n + 1) 129 z = x_nx q_k140 C s n ((x_lda 130 0) C z) := x_to_at f140_129 C s n z
theorem f140_130 : x_fetch q_k140 130 = x_gf 133 8 3 := rfl
theorem t140_130 (C : xF) (s n : Nat) (z : xS) : x_to q_k140 C s (n + 1) 130 z = x_nx q_k140 C s n ((x_gf 133 8 3) C z) := x_to_at f140_130 C s n z
theorem f140_133 : x_fetch q_k140 133 = x_ldi 135 4 := rfl
theorem t140_133 (C : xF) (s n : Nat) (z : xS) : x_to q_k140 C s (n + 1) 133 z = x_nx q_k140 C s n ((x_ldi 135 4) C z) := x_to_at f140_133 C s n z
theorem f140_135 : x_fetch q_k140 135 = x_ald 136 0 := rfl
theorem t140_135 (C : xF) (s n : Nat) (z : xS) : x_to q_k140 C s (n + 1) 135 z = x_nx q_k140 C s n ((x_ald 136 0) C z) := x_to_at f140_135 C s n z
theorem f140_136 : x_fetch q_k140 136 = x_st (x_push 138 (.int (99))) := rfl
theorem t140_136 (C : xF) (s n : Nat) (z : xS) : x_to q_k140 C s (n + 1) 136 z = x_nx q_k140 C s n ((x_st (x_push 138 (.int (99)))) C z) := x_to_at f140_136 C s n z
theorem f140_138 : x_fetch q_k140 138 = x_st (x_icne 178 141) := rfl
theorem t140_138 (C : xF) (s n : Nat) (z : xS) : x_to q_k140 C s (n + 1) 138 z = x_nx q_k140 C s n ((x_st (x_icne 178 141)) C z) := x_to_at f140_138 C s n z
theorem f140_141 : x_fetch q_k140 141 = x_lda 142 0 := rfl
theorem t140_141 (C : xF) (s n : Nat) (z : xS) : x_to q_k140 C s (n + 1) 141 z = x_nx q_k140 C s n ((x_lda 142 0) C z) := x_to_at f140_141 C s n z
theorem f140_142 : x_fetch q_k140 142 = x_ldi 144 4 := rfl
theorem t140_142 (C : xF) (s n : Nat) (z : xS) : x_to q_k140 C s (n + 1) 142 z = x_nx q_k140 C s n ((x_ldi 144 4) C z) := x_to_at f140_142 C s n z
theorem f140_144 : x_fetch q_k140 144 = x_st (x_push 145 (.int (1))) := rfl
theorem t140_144 (C : xF) (s n : Nat) (z : xS) : x_to q_k140 C s (n + 1) 144 z = x_nx q_k140 C s n ((x_st (x_push 145 (.int (1)))) C z) := x_to_at f140_144 C s n z
theorem f140_145 : x_fetch q_k140 145 = x_st (x_bin 146 (fun a b => a + b)) := rfl
theorem t140_145 (C : xF) (s n : Nat) (z : xS) : x_to q_k140 C s (n + 1) 145 z = x_nx q_k140 C s n ((x_st (x_bin 146 (fun a b => a + b))) C z) := x_to_at f140_145 C s n z
set_option maxRecDepth 20000 in
theorem f140_146 : x_fetch q_k140 146 = x_cv 149 139 2 8 := rfl
theorem t140_146 (C : xF) (s n : Nat) (z : xS) : x_to q_k140 C s (n + 1) 146 z = x_nx q_k140 C s n ((x_cv 149 139 2 8) C z) := x_to_at f140_146 C s n z
set_option maxRecDepth 20000 in
theorem f140_149 : x_fetch q_k140 149 = x_sti 151 6 := rfl
theorem t140_149 (C : xF) (s n : Nat) (z : xS) : x_to q_k140 C s (n + 1) 149 z = x_nx q_k140 C s n ((x_sti 151 6) C z) := x_to_at f140_149 C s n z
set_option maxRecDepth 20000 in
theorem f140_151 : x_fetch q_k140 151 = x_lda 152 0 := rfl
theorem t140_151 (C : xF) (s n : Nat) (z : xS) : x_to q_k140 C s (n + 1) 151 z = x_nx q_k140 C s n ((x_lda 152 0) C z) := x_to_at f140_151 C s n z
set_option maxRecDepth 20000 in
theorem f140_152 : x_fetch q_k140 152 = x_ldi 154 4 := rfl
theorem t140_152 (C : xF) (s n : Nat) (z : xS) : x_to q_k140 C s (n + 1) 152 z = x_nx q_k140 C s n ((x_ldi 154 4) C z) := x_to_at f140_152 C s n z
set_option maxRecDepth 20000 in
theorem f140_154 : x_fetch q_k140 154 = x_st (x_push 155 (.int (1))) := rfl
theorem t140_154 (C : xF) (s n : Nat) (z : xS) : x_to q_k140 C s (n + 1) 154 z = x_nx q_k140 C s n ((x_st (x_push 155 (.int (1)))) C z) := x_to_at f140_154 C s n z
set_option maxRecDepth 20000 in
theorem f140_155 : x_fetch q_k140 155 = x_st (x_bin 156 (fun a b => a + b)) := rfl
theorem t140_155 (C : xF) (s n : Nat) (z : xS) : x_to q_k140 C s (n + 1) 155 z = x_nx q_k140 C s n ((x_st (x_bin 156 (fun a b => a + b))) C z) := x_to_at f140_155 C s n z
set_option maxRecDepth 20000 in
theorem f140_156 : x_fetch q_k140 156 = x_ldi 158 6 := rfl
theorem t140_156 (C : xF) (s n : Nat) (z : xS) : x_to q_k140 C s (n + 1) 156 z = x_nx q_k140 C s n ((x_ldi 158 6) C z) := x_to_at f140_156 C s n z
set_option maxRecDepth 20000 in
theorem f140_158 : x_fetch q_k140 158 = x_cv 161 138 3 8 := rfl
theorem t140_158 (C : xF) (s n : Nat) (z : xS) : x_to q_k140 C s (n + 1) 158 z = x_nx q_k140 C s n ((x_cv 161 138 3 8) C z) := x_to_at f140_158 C s n z
set_option maxRecDepth 20000 in
theorem f140_161 : x_fetch q_k140 161 = x_lda 162 0 := rfl
theorem t140_161 (C : xF) (s n : Nat) (z : xS) : x_to q_k140 C s (n + 1) 161 z = x_nx q_k140 C s n ((x_lda 162 0) C z) := x_to_at f140_161 C s n z
set_option maxRecDepth 20000 in
theorem f140_162 : x_fetch q_k140 162 = x_st (x_push 164 (.int (61))) := rfl
theorem t140_162 (C : xF) (s n : Nat) (z : xS) : x_to q_k140 C s (n + 1) 162 z = x_nx q_k140 C s n ((x_st (x_push 164 (.int (61)))) C z) := x_to_at f140_162 C s n z
set_option maxRecDepth 20000 in
theorem f140_164 : x_fetch q_k140 164 = x_cv 167 137 2 8 := rfl
theorem t140_164 (C : xF) (s n : Nat) (z : xS) : x_to q_k140 C s (n + 1) 164 z = x_nx q_k140 C s n ((x_cv 167 137 2 8) C z) := x_to_at f140_164 C s n z
set_option maxRecDepth 20000 in
theorem f140_167 : x_fetch q_k140 167 = x_lda 168 0 := rfl
theorem t140_167 (C : xF) (s n : Nat) (z : xS) : x_to q_k140 C s (n + 1) 167 z = x_nx q_k140 C s n ((x_lda 168 0) C z) := x_to_at f140_167 C s n z
set_option maxRecDepth 20000 in
theorem f140_168 : x_fetch q_k140 168 = x_ldi 170 6 := rfl
theorem t140_168 (C : xF) (s n : Nat) (z : xS) : x_to q_k140 C s (n + 1) 168 z = x_nx q_k140 C s n ((x_ldi 170 6) C z) := x_to_at f140_168 C s n z
set_option maxRecDepth 20000 in
theorem f140_170 : x_fetch q_k140 170 = x_ldi 172 5 := rfl
theorem t140_170 (C : xF) (s n : Nat) (z : xS) : x_to q_k140 C s (n + 1) 170 z = x_nx q_k140 C s n ((x_ldi 172 5) C z) := x_to_at f140_170 C s n z
set_option maxRecDepth 20000 in
theorem f140_172 : x_fetch q_k140 172 = x_cv 175 138 3 8 := rfl
theorem t140_172 (C : xF) (s n : Nat) (z : xS) : x_to q_k140 C s (n + 1) 172 z = x_nx q_k140 C s n ((x_cv 175 138 3 8) C z) := x_to_at f140_172 C s n z
set_option maxRecDepth 20000 in
theorem f140_175 : x_fetch q_k140 175 = x_st (x_goto 186) := rfl
theorem t140_175 (C : xF) (s n : Nat) (z : xS) : x_to q_k140 C s (n + 1) 175 z = x_nx q_k140 C s n ((x_st (x_goto 186)) C z) := x_to_at f140_175 C s n z
set_option maxRecDepth 20000 in
theorem f140_178 : x_fetch q_k140 178 = x_lda 179 0 := rfl
theorem t140_178 (C : xF) (s n : Nat) (z : xS) : x_to q_k140 C s (n + 1) 178 z = x_nx q_k140 C s n ((x_lda 179 0) C z) := x_to_at f140_178 C s n z
set_option maxRecDepth 20000 in
theorem f140_179 : x_fetch q_k140 179 = x_ldi 181 4 := rfl
theorem t140_179 (C : xF) (s n : Nat) (z : xS) : x_to q_k140 C s (n + 1) 179 z = x_nx q_k140 C s n ((x_ldi 181 4) C z) := x_to_at f140_179 C s n z
set_option maxRecDepth 20000 in
theorem f140_181 : x_fetch q_k140 181 = x_ldi 183 5 := rfl
theorem t140_181 (C : xF) (s n : Nat) (z : xS) : x_to q_k140 C s (n + 1) 181 z = x_nx q_k140 C s n ((x_ldi 183 5) C z) := x_to_at f140_181 C s n z
set_option maxRecDepth 20000 in
theorem f140_183 : x_fetch q_k140 183 = x_cv 186 138 3 8 := rfl
theorem t140_183 (C : xF) (s n : Nat) (z : xS) : x_to q_k140 C s (n + 1) 183 z = x_nx q_k140 C s n ((x_cv 186 138 3 8) C z) := x_to_at f140_183 C s n z
set_option maxRecDepth 20000 in
theorem f140_186 : x_fetch q_k140 186 = x_iinc 189 3 (1) := rfl
theorem t140_186 (C : xF) (s n : Nat) (z : xS) : x_to q_k140 C s (n + 1) 186 z = x_nx q_k140 C s n ((x_iinc 189 3 (1)) C z) := x_to_at f140_186 C s n z
set_option maxRecDepth 20000 in
theorem f140_189 : x_fetch q_k140 189 = x_st (x_goto 51) := rfl
theorem t140_189 (C : xF) (s n : Nat) (z : xS) : x_to q_k140 C s (n + 1) 189 z = x_nx q_k140 C s n ((x_st (x_goto 51)) C z) := x_to_at f140_189 C s n z
set_option maxRecDepth 20000 in
theorem f140_192 : x_fetch q_k140 192 = x_lda 193 0 := rfl
theorem t140_192 (C : xF) (s n : Nat) (z : xS) : x_to q_k140 C s (n + 1) 192 z = x_nx q_k140 C s n ((x_lda 193 0) C z) := x_to_at f140_192 C s n z
set_option maxRecDepth 20000 in
theorem f140_193 : x_fetch q_k140 193 = x_gf 196 8 38 := rfl
theorem t140_193 (C : xF) (s n : Nat) (z : xS) : x_to q_k140 C s (n + 1) 193 z = x_nx q_k140 C s n ((x_gf 196 8 38) C z) := x_to_at f140_193 C s n z
set_option maxRecDepth 20000 in
theorem f140_196 : x_fetch q_k140 196 = x_ri (.int) := rfl
theorem t140_196 (C : xF) (s n : Nat) (z : xS) : x_to q_k140 C s (n + 1) 196 z = x_nx q_k140 C s n ((x_ri (.int)) C z) := x_to_at f140_196 C s n z
def ltT (y : Int × List Int) : List Int := (if y.1 = 1 then [126] else []) ++ (if y.2.getD 0 0 = 99 then goT (tm y.2 1) [] ++ (61 :: goT (y.2.drop (1 + (tm y.2 1).length)) []) else goT y.2 [])
def txL : List (Int × List Int) → Nat → List Int
  | [], _ => []
  | y :: t, k => (if 0 < k then [124] else []) ++ (ltT y ++ txL t (k + 1))
def txC (D : List (Int × List Int)) : List Int := if D.length = 0 then [35] else txL D 0
def ltr (D : List (Int × List Int)) (i : Int) : Int := if i < (txC D).length then (txC D).getD i.toNat 0 else -1
theorem ltT_len {y : Int × List Int} (hT : Ts 1 y.2) : (ltT y).length ≤ 2 + 3 * y.2.length := by
  unfold ltT
  rw [List.length_append]
  have h1 : (if y.1 = 1 then [126] else ([] : List Int)).length ≤ 1 := by split <;> simp
  by_cases h9 : y.2.getD 0 0 = 99
  · rw [if_pos h9, List.length_append, List.length_cons]
    have g1 := goT_len (tm y.2 1) []
    have g2 := goT_len (y.2.drop (1 + (tm y.2 1).length)) []
    rw [List.length_drop] at g2
    simp only [List.length_nil] at g1 g2
    obtain ⟨t1, t2⟩ := two_99 hT h9
    omega
  · rw [if_neg h9]
    have := goT_len y.2 []
    simp only [List.length_nil] at this
    omega
section LT
variable {w : Nat → xC} {N : Nat} {m : Nat → Int} {x : Nat → List Int} {D : List (Int × List Int)} {c i : Int}
def lL (lv : xL) (c k : Int) : Prop := c1 lv ∧ x_lk lv 0 = some (.ref 30) ∧ x_lk lv 1 = some (.int (iZ c)) ∧ x_lk lv 3 = some (.int (iZ k))
theorem lL.st {lv : xL} {c k : Int} (h : lL lv c k) {j : Nat} {v : Value} (hj : 3 < j) (hv : v.category = 1) : lL ((j, v) :: lv.filter (x_keep j)) c k := by
  obtain ⟨h1, h2, h3, h4⟩ := h
  refine ⟨c1_st hv h1, ?_, ?_, ?_⟩ <;> rw [lk_s h1, if_neg (by omega)] <;> assumption
/-- the state while a clause is told -/
def TSt (w0 : Nat → xC) (m0 : Nat → Int) (i : Int) (w : Nat → xC) (m : Nat → Int) (L : List Int) : Prop := Fr ksE w0 w ∧ w 27 = .inr (8, mF m) ∧ (∃ En, w 50 = cI 0 En ∧ En.length = 400) ∧ mE m0 m ∧ TLs m L i
theorem TSt.tell {w0 w : Nat → xC} {m0 m : Nat → Int} {L : List Int} (h : TSt w0 m0 i w m L) (d : Nat) (hN : 53 ≤ N) (i0 : 0 ≤ i) (i9 : i < 2147483648) (l9 : L.length < 1000) (c : Int) : ∃ (w' : Nat → xC) (m' : Nat → Int), TSt w0 m0 i w' m' (L ++ [c]) ∧ Xc (d + 1) 137 [.ref 30, .int (iZ c)] (hp w N) (none, hp w' N) := by
  obtain ⟨h1, h2, ⟨En, h3, h4⟩, h5, h6⟩ := h
  obtain ⟨m', t1, t2, X⟩ := m137 d hN h2 h6 i0 i9 l9 c
  exact ⟨_, m', ⟨h1.up (by decide), uH_at _ _ _, ⟨En, by rw [uH_ne (by decide)]; exact h3, h4⟩, h5.tr t2, t1⟩, X⟩
theorem TSt.term {w0 w : Nat → xC} {m0 m : Nat → Int} {L S : List Int} (h : TSt w0 m0 i w m L) (d : Nat) (hN : 53 ≤ N) (i0 : 0 ≤ i) (i9 : i < 2147483648) (hS : w0 28 = cI 0 S) (s1 : S.length = 1320) (fr to : Int) (t : List Int) (hs : seg S fr to = t) (f0 : 0 ≤ fr) (fe : fr + t.length = to) (to9 : to ≤ 1320) (hr : ∀ s ∈ t, 0 ≤ s ∧ s < 204 ∧ (s < 99 → s < 26)) (h8 : L.length + 3 * t.length ≤ 800) (h9 : t.length ≤ 100) : ∃ (w' : Nat → xC) (m' : Nat → Int), TSt w0 m0 i w' m' (L ++ goT t []) ∧ Xc (d + 2) 138 [.ref 30, .int (iZ fr), .int (iZ to)] (hp w N) (none, hp w' N) := by
  obtain ⟨h1, h2, ⟨En, h3, h4⟩, h5, h6⟩ := h
  obtain ⟨w', m', En', a1, a2, a3, a4, a5, a6, a7⟩ := m138 d hN i0 i9 s1 fr to t hs f0 fe to9 hr h2 ((h1 28 (by decide)).trans hS) h3 h4 h6 h8 h9
  exact ⟨w', m', ⟨h1.tr a1, a2, ⟨En', a3, a4⟩, h5.tr a5, a6⟩, a7⟩
set_option maxHeartbeats 2000000 in
theorem l140 (d : Nat) (hN : 53 ≤ N) {w0 : Nat → xC} {m0 : Nat → Int} (h : RO w0 m0 x) (hI : RI x) (hD : RD c D x) (i0 : 0 ≤ i) (i9 : i < 2147483648) : ∀ (r k : Nat) (w : Nat → xC) (m : Nat → Int) (L : List Int) (lv : xL), k + r = D.length → TSt w0 m0 i w m L → L.length + 3 * ((flt D).length - stC D k) + 4 * r ≤ 400 → lL lv c k → ∃ (w' : Nat → xC) (m' : Nat → Int), TSt w0 m0 i w' m' (L ++ txL (D.drop k) k) ∧ Gx q_k140 (d + 2) 51 (lv, [], hp w N) (some (.int (iZ (m' 14))), hp w' N) := by
  obtain ⟨⟨a1, a2, a3, a4, a5, a6, a7, a8, a9⟩, gD, hs⟩ := hD
  have r_ : ∀ j, 28 ≤ j → j ≤ 51 → w0 j = cI (kdR j) (x j) ∧ (x j).length = lnR j := h.2
  have n28 : (x 28).length = 1320 := (r_ 28 (by decide) (by decide)).2
  have gD2 := gD.2.1
  intro r
  induction r with
  | zero =>
    intro k w m L lv hk hT hb hl
    rw [List.drop_eq_nil_of_le (by omega)]
    refine ⟨w, m, by show TSt w0 m0 i w m (L ++ []); rw [List.append_nil]; exact hT, Gx.fin 20 Cs.tt (fun K _ => ?_)⟩
    have hm := hT.2.1
    have h30 : w 30 = cI 0 (x 30) := (hT.1 30 (by decide)).trans (r_ 30 (by decide) (by decide)).1
    obtain ⟨hc, p0, p1, p3⟩ := hl
    have b1 : (D.length : Int) ≤ (k : Int) := by omega
    have k9 : (k : Int) ≤ 6 := by omega
    simp (disch := first | (refine c1_id ?_; assumption) | (refine c1_st rfl ?_; repeat (first | assumption | refine c1_st rfl ?_)) | omega) [nx_l, nx_r, nx_n, x_st, x_push, x_bin, x_div, x_un, x_dup, x_pop, x_dup2, x_goto, x_ifeq, x_ifne, x_iflt, x_ifge, x_ifgt, x_ifle, x_iceq, x_icne, x_iclt, x_icge, x_icgt, x_icle, x_ifnull, x_ifnonnull, x_ldi, x_lda, x_sti, x_sta, x_iinc, x_gf, x_pf, x_ald, x_ast, x_aln, x_len, x_cl_, x_cv, x_cs, x_rc, x_r0, x_isT, x_oi, x_rv, x_ri, x_ra, Value.category, t140_0, t140_1, t140_2, t140_5, t140_6, t140_7, t140_10, t140_13, t140_14, t140_17, t140_18, t140_19, t140_20, t140_21, t140_24, t140_25, t140_26, t140_29, t140_30, t140_31, t140_34, t140_35, t140_38, t140_39, t140_40, t140_43, t140_44, t140_46, t140_49, t140_50, t140_51, t140_52, t140_53, t140_56, t140_57, t140_58, t140_61, t140_63, t140_64, t140_65, t140_66, t140_69, t140_71, t140_72, t140_73, t140_74, t140_75, t140_76, t140_77, t140_79, t140_81, t140_82, t140_83, t140_84, t140_87, t140_89, t140_90, t140_91, t140_92, t140_93, t140_94, t140_95, t140_96, t140_97, t140_99, t140_100, t140_103, t140_104, t140_106, t140_109, t140_110, t140_113, t140_115, t140_116, t140_117, t140_118, t140_119, t140_120, t140_123, t140_124, t140_126, t140_129, t140_130, t140_133, t140_135, t140_136, t140_138, t140_141, t140_142, t140_144, t140_145, t140_146, t140_149, t140_151, t140_152, t140_154, t140_155, t140_156, t140_158, t140_161, t140_162, t140_164, t140_167, t140_168, t140_170, t140_172, t140_175, t140_178, t140_179, t140_181, t140_183, t140_186, t140_189, t140_192, t140_193, t140_196, lk_s, hp_get, hp_set, uH_at, uH_ne, uH_upd, uH_swap, iZ_add, iZ_sub, iZ_mul, iZ_neg, iZ_lt, iZ_le, iZ_eq, iZ_div, iZ_of, ix_Z, gZ_map, gZ_mapI, gZ_map', le_0, le_s, sZ_map, sZ_len, bZ_0, bZ_inj, bZ_t, bZ_f, nr_i, nr_0, nr_1, nr_b, ft_i, ft_b, ft_0, ft_1, zl_0, zl_1, zl_7, zl_35, zl_44, zl_61, zl_99, zl_124, zl_126, mF_len, mg_0, mg_1, mg_2, mg_3, mg_4, mg_5, mg_6, mg_7, mg_8, mg_9, mg_10, mg_11, mg_12, mg_13, mg_14, mg_15, mg_16, mg_17, mg_18, mg_19, mg_20, mg_21, mg_22, mg_23, mg_24, mg_25, mg_26, mg_27, mg_28, mg_29, mg_30, mg_31, mg_32, mg_33, mg_34, mg_35, mg_36, mg_37, mg_38, ms_0, ms_1, ms_2, ms_13, ms_14, ms_15, ms_16, ms_21, ms_22, ms_23, ms_24, ms_28, ms_36, ms_37, ms_38, st_at, st_ne, st_st, st_swap, p0, p1, p3, hm, h30, a7, b1, -List.filter_filter, -List.getElem?_map, -List.getD_eq_getElem?_getD]
  | succ r ih =>
    intro k w m L lv hk hT hb hl
    have hkD : k < D.length := by omega
    rw [drop_lC hkD]
    have sk := stC_succ hkD
    have sm := stC_mono (C := D) (show k + 1 ≤ D.length from hkD)
    rw [stC_all] at sm
    have hTk := (gD.2.2 _ (lC_mem hkD)).2.1
    have hsg := (gD.2.2 _ (lC_mem hkD)).2.2
    have e8 := a8 k (by omega)
    have e8s := a8 (k + 1) (by omega)
    rw [show 7 * c + ((k + 1 : Nat) : Int) = 7 * c + (k : Int) + 1 by omega] at e8s
    obtain ⟨e9, s9⟩ := a9 k hkD
    have kb : (k : Int) < 6 := by omega
    have b1 : ¬ (D.length : Int) ≤ (k : Int) := by omega
    have sgk : seg (x 28) (44 * c + stC D k) (44 * c + stC D k + (lC D k).2.length) = (lC D k).2 := seg_of (by omega) (by omega) (fun j hj => by
      have := hs (stC D k + j) (stC_lt hkD hj)
      rw [flt_at hkD hj] at this
      rw [← this]
      congr 1
      omega)
    obtain ⟨fr, hfr⟩ : ∃ fr : Int, fr = 44 * c + (stC D k : Int) := ⟨_, rfl⟩
    obtain ⟨to, hto⟩ : ∃ to : Int, to = 44 * c + (stC D (k + 1) : Int) := ⟨_, rfl⟩
    have fto : fr + (lC D k).2.length = to := by omega
    rw [← hfr, fto] at sgk
    have fr0 : 0 ≤ fr := by omega
    have to9 : to ≤ 1320 := by omega
    -- the beginning
    have L4 := hl.st (j := 4) (v := .int (iZ fr)) (by decide) rfl
    have L5 := L4.st (j := 5) (v := .int (iZ to)) (by decide) rfl
    have q4 : x_lk ((5, .int (iZ to)) :: List.filter (x_keep 5) ((4, .int (iZ fr)) :: lv.filter (x_keep 4))) 4 = some (.int (iZ fr)) := by rw [lk_s L4.1, lk_s hl.1]; rfl
    have q5 : x_lk ((5, .int (iZ to)) :: List.filter (x_keep 5) ((4, .int (iZ fr)) :: lv.filter (x_keep 4))) 5 = some (.int (iZ to)) := by rw [lk_s L4.1]; rfl
    have cell : ∀ (w : Nat → xC) (m : Nat → Int) (L : List Int), TSt w0 m0 i w m L → w 27 = .inr (8, mF m) ∧ w 28 = cI 0 (x 28) ∧ w 29 = cI 0 (x 29) ∧ w 30 = cI 0 (x 30) ∧ w 33 = cI 1 (x 33) := fun w m L t => ⟨t.2.1, (t.1 28 (by decide)).trans (r_ 28 (by decide) (by decide)).1, (t.1 29 (by decide)).trans (r_ 29 (by decide) (by decide)).1, (t.1 30 (by decide)).trans (r_ 30 (by decide) (by decide)).1, (t.1 33 (by decide)).trans (r_ 33 (by decide) (by decide)).1⟩
    have g99 : ∀ res, Gx q_k140 (d + 2) 99 ((5, .int (iZ to)) :: List.filter (x_keep 5) ((4, .int (iZ fr)) :: lv.filter (x_keep 4)), [], hp w N) res → Gx q_k140 (d + 2) 51 (lv, [], hp w N) res := fun res hg => by
      obtain ⟨hm, _, h29, h30, _⟩ := cell w m L hT
      obtain ⟨hc, p0, p1, p3⟩ := hl
      refine Gx.run 60 Cs.tt (fun K _ => ?_) hg
      rw [hfr, hto]
      simp (disch := first | (refine c1_id ?_; assumption) | (refine c1_st rfl ?_; repeat (first | assumption | refine c1_st rfl ?_)) | omega) [nx_l, nx_r, nx_n, x_st, x_push, x_bin, x_div, x_un, x_dup, x_pop, x_dup2, x_goto, x_ifeq, x_ifne, x_iflt, x_ifge, x_ifgt, x_ifle, x_iceq, x_icne, x_iclt, x_icge, x_icgt, x_icle, x_ifnull, x_ifnonnull, x_ldi, x_lda, x_sti, x_sta, x_iinc, x_gf, x_pf, x_ald, x_ast, x_aln, x_len, x_cl_, x_cv, x_cs, x_rc, x_r0, x_isT, x_oi, x_rv, x_ri, x_ra, Value.category, t140_0, t140_1, t140_2, t140_5, t140_6, t140_7, t140_10, t140_13, t140_14, t140_17, t140_18, t140_19, t140_20, t140_21, t140_24, t140_25, t140_26, t140_29, t140_30, t140_31, t140_34, t140_35, t140_38, t140_39, t140_40, t140_43, t140_44, t140_46, t140_49, t140_50, t140_51, t140_52, t140_53, t140_56, t140_57, t140_58, t140_61, t140_63, t140_64, t140_65, t140_66, t140_69, t140_71, t140_72, t140_73, t140_74, t140_75, t140_76, t140_77, t140_79, t140_81, t140_82, t140_83, t140_84, t140_87, t140_89, t140_90, t140_91, t140_92, t140_93, t140_94, t140_95, t140_96, t140_97, t140_99, t140_100, t140_103, t140_104, t140_106, t140_109, t140_110, t140_113, t140_115, t140_116, t140_117, t140_118, t140_119, t140_120, t140_123, t140_124, t140_126, t140_129, t140_130, t140_133, t140_135, t140_136, t140_138, t140_141, t140_142, t140_144, t140_145, t140_146, t140_149, t140_151, t140_152, t140_154, t140_155, t140_156, t140_158, t140_161, t140_162, t140_164, t140_167, t140_168, t140_170, t140_172, t140_175, t140_178, t140_179, t140_181, t140_183, t140_186, t140_189, t140_192, t140_193, t140_196, lk_s, hp_get, hp_set, uH_at, uH_ne, uH_upd, uH_swap, iZ_add, iZ_sub, iZ_mul, iZ_neg, iZ_lt, iZ_le, iZ_eq, iZ_div, iZ_of, ix_Z, gZ_map, gZ_mapI, gZ_map', le_0, le_s, sZ_map, sZ_len, bZ_0, bZ_inj, bZ_t, bZ_f, nr_i, nr_0, nr_1, nr_b, ft_i, ft_b, ft_0, ft_1, zl_0, zl_1, zl_7, zl_35, zl_44, zl_61, zl_99, zl_124, zl_126, mF_len, mg_0, mg_1, mg_2, mg_3, mg_4, mg_5, mg_6, mg_7, mg_8, mg_9, mg_10, mg_11, mg_12, mg_13, mg_14, mg_15, mg_16, mg_17, mg_18, mg_19, mg_20, mg_21, mg_22, mg_23, mg_24, mg_25, mg_26, mg_27, mg_28, mg_29, mg_30, mg_31, mg_32, mg_33, mg_34, mg_35, mg_36, mg_37, mg_38, ms_0, ms_1, ms_2, ms_13, ms_14, ms_15, ms_16, ms_21, ms_22, ms_23, ms_24, ms_28, ms_36, ms_37, ms_38, st_at, st_ne, st_st, st_swap, p0, p1, p3, hm, h29, h30, a7, b1, e8, e8s, -List.filter_filter, -List.getElem?_map, -List.getD_eq_getElem?_getD]
    generalize ((5, .int (iZ to)) :: List.filter (x_keep 5) ((4, .int (iZ fr)) :: lv.filter (x_keep 4)) : xL) = lvA at L5 q4 q5 g99
    have LA := L5
    obtain ⟨hcA, p0, p1, p3⟩ := LA
    -- the bar
    have bar : ∃ (w1 : Nat → xC) (m1 : Nat → Int), TSt w0 m0 i w1 m1 (L ++ (if 0 < k then [124] else [])) ∧ ∀ res, Gx q_k140 (d + 2) 109 (lvA, [], hp w1 N) res → Gx q_k140 (d + 2) 99 (lvA, [], hp w N) res := by
      by_cases hk0 : 0 < k
      · rw [if_pos hk0]
        obtain ⟨w1, m1, t1, X⟩ := hT.tell (d + 1) hN i0 i9 (by omega) 124
        refine ⟨w1, m1, t1, fun res hg => Gx.run 20 X (fun K mm => ?_) hg⟩
        have hm := hT.2.1
        have b2 : ¬ (k : Int) ≤ 0 := by omega
        obtain ⟨kk, hkk⟩ : ∃ kk : Int, kk = (k : Int) := ⟨_, rfl⟩
        rw [← hkk] at p3 b2 kb
        simp (disch := first | (refine c1_id ?_; assumption) | (refine c1_st rfl ?_; repeat (first | assumption | refine c1_st rfl ?_)) | omega) [nx_l, nx_r, nx_n, x_st, x_push, x_bin, x_div, x_un, x_dup, x_pop, x_dup2, x_goto, x_ifeq, x_ifne, x_iflt, x_ifge, x_ifgt, x_ifle, x_iceq, x_icne, x_iclt, x_icge, x_icgt, x_icle, x_ifnull, x_ifnonnull, x_ldi, x_lda, x_sti, x_sta, x_iinc, x_gf, x_pf, x_ald, x_ast, x_aln, x_len, x_cl_, x_cv, x_cs, x_rc, x_r0, x_isT, x_oi, x_rv, x_ri, x_ra, Value.category, t140_0, t140_1, t140_2, t140_5, t140_6, t140_7, t140_10, t140_13, t140_14, t140_17, t140_18, t140_19, t140_20, t140_21, t140_24, t140_25, t140_26, t140_29, t140_30, t140_31, t140_34, t140_35, t140_38, t140_39, t140_40, t140_43, t140_44, t140_46, t140_49, t140_50, t140_51, t140_52, t140_53, t140_56, t140_57, t140_58, t140_61, t140_63, t140_64, t140_65, t140_66, t140_69, t140_71, t140_72, t140_73, t140_74, t140_75, t140_76, t140_77, t140_79, t140_81, t140_82, t140_83, t140_84, t140_87, t140_89, t140_90, t140_91, t140_92, t140_93, t140_94, t140_95, t140_96, t140_97, t140_99, t140_100, t140_103, t140_104, t140_106, t140_109, t140_110, t140_113, t140_115, t140_116, t140_117, t140_118, t140_119, t140_120, t140_123, t140_124, t140_126, t140_129, t140_130, t140_133, t140_135, t140_136, t140_138, t140_141, t140_142, t140_144, t140_145, t140_146, t140_149, t140_151, t140_152, t140_154, t140_155, t140_156, t140_158, t140_161, t140_162, t140_164, t140_167, t140_168, t140_170, t140_172, t140_175, t140_178, t140_179, t140_181, t140_183, t140_186, t140_189, t140_192, t140_193, t140_196, lk_s, hp_get, hp_set, uH_at, uH_ne, uH_upd, uH_swap, iZ_add, iZ_sub, iZ_mul, iZ_neg, iZ_lt, iZ_le, iZ_eq, iZ_div, iZ_of, ix_Z, gZ_map, gZ_mapI, gZ_map', le_0, le_s, sZ_map, sZ_len, bZ_0, bZ_inj, bZ_t, bZ_f, nr_i, nr_0, nr_1, nr_b, ft_i, ft_b, ft_0, ft_1, zl_0, zl_1, zl_7, zl_35, zl_44, zl_61, zl_99, zl_124, zl_126, mF_len, mg_0, mg_1, mg_2, mg_3, mg_4, mg_5, mg_6, mg_7, mg_8, mg_9, mg_10, mg_11, mg_12, mg_13, mg_14, mg_15, mg_16, mg_17, mg_18, mg_19, mg_20, mg_21, mg_22, mg_23, mg_24, mg_25, mg_26, mg_27, mg_28, mg_29, mg_30, mg_31, mg_32, mg_33, mg_34, mg_35, mg_36, mg_37, mg_38, ms_0, ms_1, ms_2, ms_13, ms_14, ms_15, ms_16, ms_21, ms_22, ms_23, ms_24, ms_28, ms_36, ms_37, ms_38, st_at, st_ne, st_st, st_swap, p0, p3, hm, b2, mm, -List.filter_filter, -List.getElem?_map, -List.getD_eq_getElem?_getD]
      · rw [if_neg hk0, List.append_nil]
        refine ⟨w, m, hT, fun res hg => Gx.run 20 Cs.tt (fun K _ => ?_) hg⟩
        have k00 : k = 0 := by omega
        subst k00
        have p3' : x_lk lvA 3 = some (.int (iZ 0)) := p3
        simp (disch := first | (refine c1_id ?_; assumption) | (refine c1_st rfl ?_; repeat (first | assumption | refine c1_st rfl ?_)) | omega) [nx_l, nx_r, nx_n, x_st, x_push, x_bin, x_div, x_un, x_dup, x_pop, x_dup2, x_goto, x_ifeq, x_ifne, x_iflt, x_ifge, x_ifgt, x_ifle, x_iceq, x_icne, x_iclt, x_icge, x_icgt, x_icle, x_ifnull, x_ifnonnull, x_ldi, x_lda, x_sti, x_sta, x_iinc, x_gf, x_pf, x_ald, x_ast, x_aln, x_len, x_cl_, x_cv, x_cs, x_rc, x_r0, x_isT, x_oi, x_rv, x_ri, x_ra, Value.category, t140_0, t140_1, t140_2, t140_5, t140_6, t140_7, t140_10, t140_13, t140_14, t140_17, t140_18, t140_19, t140_20, t140_21, t140_24, t140_25, t140_26, t140_29, t140_30, t140_31, t140_34, t140_35, t140_38, t140_39, t140_40, t140_43, t140_44, t140_46, t140_49, t140_50, t140_51, t140_52, t140_53, t140_56, t140_57, t140_58, t140_61, t140_63, t140_64, t140_65, t140_66, t140_69, t140_71, t140_72, t140_73, t140_74, t140_75, t140_76, t140_77, t140_79, t140_81, t140_82, t140_83, t140_84, t140_87, t140_89, t140_90, t140_91, t140_92, t140_93, t140_94, t140_95, t140_96, t140_97, t140_99, t140_100, t140_103, t140_104, t140_106, t140_109, t140_110, t140_113, t140_115, t140_116, t140_117, t140_118, t140_119, t140_120, t140_123, t140_124, t140_126, t140_129, t140_130, t140_133, t140_135, t140_136, t140_138, t140_141, t140_142, t140_144, t140_145, t140_146, t140_149, t140_151, t140_152, t140_154, t140_155, t140_156, t140_158, t140_161, t140_162, t140_164, t140_167, t140_168, t140_170, t140_172, t140_175, t140_178, t140_179, t140_181, t140_183, t140_186, t140_189, t140_192, t140_193, t140_196, lk_s, hp_get, hp_set, uH_at, uH_ne, uH_upd, uH_swap, iZ_add, iZ_sub, iZ_mul, iZ_neg, iZ_lt, iZ_le, iZ_eq, iZ_div, iZ_of, ix_Z, gZ_map, gZ_mapI, gZ_map', le_0, le_s, sZ_map, sZ_len, bZ_0, bZ_inj, bZ_t, bZ_f, nr_i, nr_0, nr_1, nr_b, ft_i, ft_b, ft_0, ft_1, zl_0, zl_1, zl_7, zl_35, zl_44, zl_61, zl_99, zl_124, zl_126, mF_len, mg_0, mg_1, mg_2, mg_3, mg_4, mg_5, mg_6, mg_7, mg_8, mg_9, mg_10, mg_11, mg_12, mg_13, mg_14, mg_15, mg_16, mg_17, mg_18, mg_19, mg_20, mg_21, mg_22, mg_23, mg_24, mg_25, mg_26, mg_27, mg_28, mg_29, mg_30, mg_31, mg_32, mg_33, mg_34, mg_35, mg_36, mg_37, mg_38, ms_0, ms_1, ms_2, ms_13, ms_14, ms_15, ms_16, ms_21, ms_22, ms_23, ms_24, ms_28, ms_36, ms_37, ms_38, st_at, st_ne, st_st, st_swap, p0, p3', -List.filter_filter, -List.getElem?_map, -List.getD_eq_getElem?_getD]
    obtain ⟨w1, m1, T1, g1⟩ := bar
    have bl : (L ++ (if 0 < k then [124] else ([] : List Int))).length ≤ L.length + 1 := by
      rw [List.length_append]
      split <;> simp
    obtain ⟨L1, hL1⟩ : ∃ L1, L1 = L ++ (if 0 < k then [124] else ([] : List Int)) := ⟨_, rfl⟩
    rw [← hL1] at T1 bl
    -- the minus
    have minus : ∃ (w2 : Nat → xC) (m2 : Nat → Int), TSt w0 m0 i w2 m2 (L1 ++ (if (lC D k).1 = 1 then [126] else [])) ∧ ∀ res, Gx q_k140 (d + 2) 129 (lvA, [], hp w2 N) res → Gx q_k140 (d + 2) 109 (lvA, [], hp w1 N) res := by
      obtain ⟨hm, _, _, _, h33⟩ := cell w1 m1 L1 T1
      by_cases hk1 : (lC D k).1 = 1
      · rw [if_pos hk1]
        obtain ⟨w2, m2, t1, X⟩ := T1.tell (d + 1) hN i0 i9 (by omega) 126
        refine ⟨w2, m2, t1, fun res hg => Gx.run 40 X (fun K mm => ?_) hg⟩
        rw [hk1] at e9
        simp (disch := first | (refine c1_id ?_; assumption) | (refine c1_st rfl ?_; repeat (first | assumption | refine c1_st rfl ?_)) | omega) [nx_l, nx_r, nx_n, x_st, x_push, x_bin, x_div, x_un, x_dup, x_pop, x_dup2, x_goto, x_ifeq, x_ifne, x_iflt, x_ifge, x_ifgt, x_ifle, x_iceq, x_icne, x_iclt, x_icge, x_icgt, x_icle, x_ifnull, x_ifnonnull, x_ldi, x_lda, x_sti, x_sta, x_iinc, x_gf, x_pf, x_ald, x_ast, x_aln, x_len, x_cl_, x_cv, x_cs, x_rc, x_r0, x_isT, x_oi, x_rv, x_ri, x_ra, Value.category, t140_0, t140_1, t140_2, t140_5, t140_6, t140_7, t140_10, t140_13, t140_14, t140_17, t140_18, t140_19, t140_20, t140_21, t140_24, t140_25, t140_26, t140_29, t140_30, t140_31, t140_34, t140_35, t140_38, t140_39, t140_40, t140_43, t140_44, t140_46, t140_49, t140_50, t140_51, t140_52, t140_53, t140_56, t140_57, t140_58, t140_61, t140_63, t140_64, t140_65, t140_66, t140_69, t140_71, t140_72, t140_73, t140_74, t140_75, t140_76, t140_77, t140_79, t140_81, t140_82, t140_83, t140_84, t140_87, t140_89, t140_90, t140_91, t140_92, t140_93, t140_94, t140_95, t140_96, t140_97, t140_99, t140_100, t140_103, t140_104, t140_106, t140_109, t140_110, t140_113, t140_115, t140_116, t140_117, t140_118, t140_119, t140_120, t140_123, t140_124, t140_126, t140_129, t140_130, t140_133, t140_135, t140_136, t140_138, t140_141, t140_142, t140_144, t140_145, t140_146, t140_149, t140_151, t140_152, t140_154, t140_155, t140_156, t140_158, t140_161, t140_162, t140_164, t140_167, t140_168, t140_170, t140_172, t140_175, t140_178, t140_179, t140_181, t140_183, t140_186, t140_189, t140_192, t140_193, t140_196, lk_s, hp_get, hp_set, uH_at, uH_ne, uH_upd, uH_swap, iZ_add, iZ_sub, iZ_mul, iZ_neg, iZ_lt, iZ_le, iZ_eq, iZ_div, iZ_of, ix_Z, gZ_map, gZ_mapI, gZ_map', le_0, le_s, sZ_map, sZ_len, bZ_0, bZ_inj, bZ_t, bZ_f, nr_i, nr_0, nr_1, nr_b, ft_i, ft_b, ft_0, ft_1, zl_0, zl_1, zl_7, zl_35, zl_44, zl_61, zl_99, zl_124, zl_126, mF_len, mg_0, mg_1, mg_2, mg_3, mg_4, mg_5, mg_6, mg_7, mg_8, mg_9, mg_10, mg_11, mg_12, mg_13, mg_14, mg_15, mg_16, mg_17, mg_18, mg_19, mg_20, mg_21, mg_22, mg_23, mg_24, mg_25, mg_26, mg_27, mg_28, mg_29, mg_30, mg_31, mg_32, mg_33, mg_34, mg_35, mg_36, mg_37, mg_38, ms_0, ms_1, ms_2, ms_13, ms_14, ms_15, ms_16, ms_21, ms_22, ms_23, ms_24, ms_28, ms_36, ms_37, ms_38, st_at, st_ne, st_st, st_swap, p0, p1, p3, hm, h33, e9, mm, -List.filter_filter, -List.getElem?_map, -List.getD_eq_getElem?_getD]
      · rw [if_neg hk1, List.append_nil]
        refine ⟨w1, m1, T1, fun res hg => Gx.run 40 Cs.tt (fun K _ => ?_) hg⟩
        have hk0 : (lC D k).1 = 0 := by
          rcases s9 with z | z
          · exact z
          · exact absurd z hk1
        rw [hk0] at e9
        simp (disch := first | (refine c1_id ?_; assumption) | (refine c1_st rfl ?_; repeat (first | assumption | refine c1_st rfl ?_)) | omega) [nx_l, nx_r, nx_n, x_st, x_push, x_bin, x_div, x_un, x_dup, x_pop, x_dup2, x_goto, x_ifeq, x_ifne, x_iflt, x_ifge, x_ifgt, x_ifle, x_iceq, x_icne, x_iclt, x_icge, x_icgt, x_icle, x_ifnull, x_ifnonnull, x_ldi, x_lda, x_sti, x_sta, x_iinc, x_gf, x_pf, x_ald, x_ast, x_aln, x_len, x_cl_, x_cv, x_cs, x_rc, x_r0, x_isT, x_oi, x_rv, x_ri, x_ra, Value.category, t140_0, t140_1, t140_2, t140_5, t140_6, t140_7, t140_10, t140_13, t140_14, t140_17, t140_18, t140_19, t140_20, t140_21, t140_24, t140_25, t140_26, t140_29, t140_30, t140_31, t140_34, t140_35, t140_38, t140_39, t140_40, t140_43, t140_44, t140_46, t140_49, t140_50, t140_51, t140_52, t140_53, t140_56, t140_57, t140_58, t140_61, t140_63, t140_64, t140_65, t140_66, t140_69, t140_71, t140_72, t140_73, t140_74, t140_75, t140_76, t140_77, t140_79, t140_81, t140_82, t140_83, t140_84, t140_87, t140_89, t140_90, t140_91, t140_92, t140_93, t140_94, t140_95, t140_96, t140_97, t140_99, t140_100, t140_103, t140_104, t140_106, t140_109, t140_110, t140_113, t140_115, t140_116, t140_117, t140_118, t140_119, t140_120, t140_123, t140_124, t140_126, t140_129, t140_130, t140_133, t140_135, t140_136, t140_138, t140_141, t140_142, t140_144, t140_145, t140_146, t140_149, t140_151, t140_152, t140_154, t140_155, t140_156, t140_158, t140_161, t140_162, t140_164, t140_167, t140_168, t140_170, t140_172, t140_175, t140_178, t140_179, t140_181, t140_183, t140_186, t140_189, t140_192, t140_193, t140_196, lk_s, hp_get, hp_set, uH_at, uH_ne, uH_upd, uH_swap, iZ_add, iZ_sub, iZ_mul, iZ_neg, iZ_lt, iZ_le, iZ_eq, iZ_div, iZ_of, ix_Z, gZ_map, gZ_mapI, gZ_map', le_0, le_s, sZ_map, sZ_len, bZ_0, bZ_inj, bZ_t, bZ_f, nr_i, nr_0, nr_1, nr_b, ft_i, ft_b, ft_0, ft_1, zl_0, zl_1, zl_7, zl_35, zl_44, zl_61, zl_99, zl_124, zl_126, mF_len, mg_0, mg_1, mg_2, mg_3, mg_4, mg_5, mg_6, mg_7, mg_8, mg_9, mg_10, mg_11, mg_12, mg_13, mg_14, mg_15, mg_16, mg_17, mg_18, mg_19, mg_20, mg_21, mg_22, mg_23, mg_24, mg_25, mg_26, mg_27, mg_28, mg_29, mg_30, mg_31, mg_32, mg_33, mg_34, mg_35, mg_36, mg_37, mg_38, ms_0, ms_1, ms_2, ms_13, ms_14, ms_15, ms_16, ms_21, ms_22, ms_23, ms_24, ms_28, ms_36, ms_37, ms_38, st_at, st_ne, st_st, st_swap, p0, p1, p3, hm, h33, e9, -List.filter_filter, -List.getElem?_map, -List.getD_eq_getElem?_getD]
    obtain ⟨w2, m2, T2, g2⟩ := minus
    have bl2 : (L1 ++ (if (lC D k).1 = 1 then [126] else ([] : List Int))).length ≤ L1.length + 1 := by
      rw [List.length_append]
      split <;> simp
    obtain ⟨L2, hL2⟩ : ∃ L2, L2 = L1 ++ (if (lC D k).1 = 1 then [126] else ([] : List Int)) := ⟨_, rfl⟩
    rw [← hL2] at T2 bl2
    -- the atom
    have h28 := (r_ 28 (by decide) (by decide)).1
    have hpos := List.length_pos_iff.mpr (Ts_ne (n := 0) hTk)
    have head : gZ (x 28) fr = (lC D k).2.getD 0 0 := by
      rw [seg_cons fr0 (by omega) (by omega)] at sgk
      rw [← sgk]
      rfl
    have atom : ∃ (w3 : Nat → xC) (m3 : Nat → Int) (lvB : xL), TSt w0 m0 i w3 m3 (L2 ++ (if (lC D k).2.getD 0 0 = 99 then goT (tm (lC D k).2 1) [] ++ (61 :: goT ((lC D k).2.drop (1 + (tm (lC D k).2 1).length)) []) else goT (lC D k).2 [])) ∧ lL lvB c k ∧ ∀ res, Gx q_k140 (d + 2) 186 (lvB, [], hp w3 N) res → Gx q_k140 (d + 2) 129 (lvA, [], hp w2 N) res := by
      obtain ⟨hm, h28', _, _, _⟩ := cell w2 m2 L2 T2
      by_cases h99 : (lC D k).2.getD 0 0 = 99
      · rw [if_pos h99]
        obtain ⟨t1, t2⟩ := two_99 hTk h99
        have f1 := tm_fits t1
        have T1' := Ts_at hTk t1
        have etm : tm (x 28) (fr + 1).toNat = tm (lC D k).2 1 := by
          have := tm_in (S := x 28) (u := (lC D k).2) (a := fr) fr0 (by rw [fto]; exact sgk) t1 T1'
          rw [show fr + ((1 : Nat) : Int) = fr + 1 by omega] at this
          exact this
        have X1 := m139 (w := w2) d hN hm h28' (by omega) hI.2.2.1 (fr + 1) (by omega) (by rw [etm]; exact T1')
        rw [etm] at X1
        obtain ⟨md, hmd⟩ : ∃ md : Int, md = fr + 1 + ((tm (lC D k).2 1).length : Int) := ⟨_, rfl⟩
        rw [← hmd] at X1
        have sg1 : seg (x 28) (fr + 1) md = tm (lC D k).2 1 := by
          rw [hmd]
          have := seg_tm (P := x 28) (i := fr + 1) (by omega)
          rw [etm] at this
          exact this
        have sg2 : seg (x 28) md to = (lC D k).2.drop (1 + (tm (lC D k).2 1).length) := by
          have := seg_drop fr0 (by omega) sgk fto (i := 1 + (tm (lC D k).2 1).length) (by omega)
          rw [show fr + ((1 + (tm (lC D k).2 1).length : Nat) : Int) = md by omega] at this
          exact this
        obtain ⟨w3, m3, T3, X2⟩ := T2.term d hN i0 i9 h28 n28 (fr + 1) md (tm (lC D k).2 1) sg1 (by omega) (by omega) (by omega) (fun s hs2 => hsg s (tm_mem hs2)) (by omega) (by omega)
        have gl := goT_len (tm (lC D k).2 1) []
        simp only [List.length_nil, Nat.add_zero] at gl
        obtain ⟨w4, m4, T4, X3⟩ := T3.tell (d + 1) hN i0 i9 (by rw [List.length_append]; omega) 61
        obtain ⟨w5, m5, T5, X4⟩ := T4.term d hN i0 i9 h28 n28 md to _ sg2 (by omega) (by rw [List.length_drop]; omega) to9 (fun s hs2 => hsg s (List.mem_of_mem_drop hs2)) (by rw [List.length_append, List.length_append, List.length_drop]; simp only [List.length_cons, List.length_nil]; omega) (by rw [List.length_drop]; omega)
        have L6 := L5.st (j := 6) (v := .int (iZ md)) (by decide) rfl
        refine ⟨w5, m5, _, ?_, L6, fun res hg => ?_⟩
        · rw [List.append_assoc, List.append_assoc] at T5
          exact T5
        · have hm3 := T3.2.1
          have hm4 := T4.2.1
          have r6 : x_lk ((6, .int (iZ md)) :: lvA.filter (x_keep 6)) 6 = some (.int (iZ md)) := by rw [lk_s hcA]; rfl
          have r5 : x_lk ((6, .int (iZ md)) :: lvA.filter (x_keep 6)) 5 = some (.int (iZ to)) := by rw [lk_s hcA]; exact q5
          have r0 : x_lk ((6, .int (iZ md)) :: lvA.filter (x_keep 6)) 0 = some (.ref 30) := L6.2.1
          have g161 : Gx q_k140 (d + 2) 161 ((6, .int (iZ md)) :: lvA.filter (x_keep 6), [], hp w3 N) res := by
            have C6 := L6.1
            generalize ((6, .int (iZ md)) :: lvA.filter (x_keep 6) : xL) = lvq at C6 r6 r5 r0 hg
            refine Gx.run 40 (X3.and X4) (fun K mm => ?_) hg
            obtain ⟨mm1, mm2⟩ := mm
            simp (disch := first | (refine c1_id ?_; assumption) | (refine c1_st rfl ?_; repeat (first | assumption | refine c1_st rfl ?_)) | omega) [nx_l, nx_r, nx_n, x_st, x_push, x_bin, x_div, x_un, x_dup, x_pop, x_dup2, x_goto, x_ifeq, x_ifne, x_iflt, x_ifge, x_ifgt, x_ifle, x_iceq, x_icne, x_iclt, x_icge, x_icgt, x_icle, x_ifnull, x_ifnonnull, x_ldi, x_lda, x_sti, x_sta, x_iinc, x_gf, x_pf, x_ald, x_ast, x_aln, x_len, x_cl_, x_cv, x_cs, x_rc, x_r0, x_isT, x_oi, x_rv, x_ri, x_ra, Value.category, t140_0, t140_1, t140_2, t140_5, t140_6, t140_7, t140_10, t140_13, t140_14, t140_17, t140_18, t140_19, t140_20, t140_21, t140_24, t140_25, t140_26, t140_29, t140_30, t140_31, t140_34, t140_35, t140_38, t140_39, t140_40, t140_43, t140_44, t140_46, t140_49, t140_50, t140_51, t140_52, t140_53, t140_56, t140_57, t140_58, t140_61, t140_63, t140_64, t140_65, t140_66, t140_69, t140_71, t140_72, t140_73, t140_74, t140_75, t140_76, t140_77, t140_79, t140_81, t140_82, t140_83, t140_84, t140_87, t140_89, t140_90, t140_91, t140_92, t140_93, t140_94, t140_95, t140_96, t140_97, t140_99, t140_100, t140_103, t140_104, t140_106, t140_109, t140_110, t140_113, t140_115, t140_116, t140_117, t140_118, t140_119, t140_120, t140_123, t140_124, t140_126, t140_129, t140_130, t140_133, t140_135, t140_136, t140_138, t140_141, t140_142, t140_144, t140_145, t140_146, t140_149, t140_151, t140_152, t140_154, t140_155, t140_156, t140_158, t140_161, t140_162, t140_164, t140_167, t140_168, t140_170, t140_172, t140_175, t140_178, t140_179, t140_181, t140_183, t140_186, t140_189, t140_192, t140_193, t140_196, lk_s, hp_get, hp_set, uH_at, uH_ne, uH_upd, uH_swap, iZ_add, iZ_sub, iZ_mul, iZ_neg, iZ_lt, iZ_le, iZ_eq, iZ_div, iZ_of, ix_Z, gZ_map, gZ_mapI, gZ_map', le_0, le_s, sZ_map, sZ_len, bZ_0, bZ_inj, bZ_t, bZ_f, nr_i, nr_0, nr_1, nr_b, ft_i, ft_b, ft_0, ft_1, zl_0, zl_1, zl_7, zl_35, zl_44, zl_61, zl_99, zl_124, zl_126, mF_len, mg_0, mg_1, mg_2, mg_3, mg_4, mg_5, mg_6, mg_7, mg_8, mg_9, mg_10, mg_11, mg_12, mg_13, mg_14, mg_15, mg_16, mg_17, mg_18, mg_19, mg_20, mg_21, mg_22, mg_23, mg_24, mg_25, mg_26, mg_27, mg_28, mg_29, mg_30, mg_31, mg_32, mg_33, mg_34, mg_35, mg_36, mg_37, mg_38, ms_0, ms_1, ms_2, ms_13, ms_14, ms_15, ms_16, ms_21, ms_22, ms_23, ms_24, ms_28, ms_36, ms_37, ms_38, st_at, st_ne, st_st, st_swap, r0, r5, r6, hm3, hm4, mm1, mm2, -List.filter_filter, -List.getElem?_map, -List.getD_eq_getElem?_getD]
          refine Gx.run 60 (X1.and X2) (fun K mm => ?_) g161
          obtain ⟨mm1, mm2⟩ := mm
          rw [h99] at head
          simp (disch := first | (refine c1_id ?_; assumption) | (refine c1_st rfl ?_; repeat (first | assumption | refine c1_st rfl ?_)) | omega) [nx_l, nx_r, nx_n, x_st, x_push, x_bin, x_div, x_un, x_dup, x_pop, x_dup2, x_goto, x_ifeq, x_ifne, x_iflt, x_ifge, x_ifgt, x_ifle, x_iceq, x_icne, x_iclt, x_icge, x_icgt, x_icle, x_ifnull, x_ifnonnull, x_ldi, x_lda, x_sti, x_sta, x_iinc, x_gf, x_pf, x_ald, x_ast, x_aln, x_len, x_cl_, x_cv, x_cs, x_rc, x_r0, x_isT, x_oi, x_rv, x_ri, x_ra, Value.category, t140_0, t140_1, t140_2, t140_5, t140_6, t140_7, t140_10, t140_13, t140_14, t140_17, t140_18, t140_19, t140_20, t140_21, t140_24, t140_25, t140_26, t140_29, t140_30, t140_31, t140_34, t140_35, t140_38, t140_39, t140_40, t140_43, t140_44, t140_46, t140_49, t140_50, t140_51, t140_52, t140_53, t140_56, t140_57, t140_58, t140_61, t140_63, t140_64, t140_65, t140_66, t140_69, t140_71, t140_72, t140_73, t140_74, t140_75, t140_76, t140_77, t140_79, t140_81, t140_82, t140_83, t140_84, t140_87, t140_89, t140_90, t140_91, t140_92, t140_93, t140_94, t140_95, t140_96, t140_97, t140_99, t140_100, t140_103, t140_104, t140_106, t140_109, t140_110, t140_113, t140_115, t140_116, t140_117, t140_118, t140_119, t140_120, t140_123, t140_124, t140_126, t140_129, t140_130, t140_133, t140_135, t140_136, t140_138, t140_141, t140_142, t140_144, t140_145, t140_146, t140_149, t140_151, t140_152, t140_154, t140_155, t140_156, t140_158, t140_161, t140_162, t140_164, t140_167, t140_168, t140_170, t140_172, t140_175, t140_178, t140_179, t140_181, t140_183, t140_186, t140_189, t140_192, t140_193, t140_196, lk_s, hp_get, hp_set, uH_at, uH_ne, uH_upd, uH_swap, iZ_add, iZ_sub, iZ_mul, iZ_neg, iZ_lt, iZ_le, iZ_eq, iZ_div, iZ_of, ix_Z, gZ_map, gZ_mapI, gZ_map', le_0, le_s, sZ_map, sZ_len, bZ_0, bZ_inj, bZ_t, bZ_f, nr_i, nr_0, nr_1, nr_b, ft_i, ft_b, ft_0, ft_1, zl_0, zl_1, zl_7, zl_35, zl_44, zl_61, zl_99, zl_124, zl_126, mF_len, mg_0, mg_1, mg_2, mg_3, mg_4, mg_5, mg_6, mg_7, mg_8, mg_9, mg_10, mg_11, mg_12, mg_13, mg_14, mg_15, mg_16, mg_17, mg_18, mg_19, mg_20, mg_21, mg_22, mg_23, mg_24, mg_25, mg_26, mg_27, mg_28, mg_29, mg_30, mg_31, mg_32, mg_33, mg_34, mg_35, mg_36, mg_37, mg_38, ms_0, ms_1, ms_2, ms_13, ms_14, ms_15, ms_16, ms_21, ms_22, ms_23, ms_24, ms_28, ms_36, ms_37, ms_38, st_at, st_ne, st_st, st_swap, p0, p1, q4, q5, hm, h28', head, mm1, mm2, -List.filter_filter, -List.getElem?_map, -List.getD_eq_getElem?_getD]
      · rw [if_neg h99]
        obtain ⟨w3, m3, T3, X2⟩ := T2.term d hN i0 i9 h28 n28 fr to (lC D k).2 sgk fr0 fto to9 hsg (by omega) (by omega)
        refine ⟨w3, m3, lvA, T3, L5, fun res hg => Gx.run 40 X2 (fun K mm => ?_) hg⟩
        have hh : ¬ gZ (x 28) fr = 99 := by rw [head]; exact h99
        have hrr := hI.2.2.1 fr
        have hr0 := hrr.1
        have hr1 := hrr.2
        simp (disch := first | (refine c1_id ?_; assumption) | (refine c1_st rfl ?_; repeat (first | assumption | refine c1_st rfl ?_)) | omega) [nx_l, nx_r, nx_n, x_st, x_push, x_bin, x_div, x_un, x_dup, x_pop, x_dup2, x_goto, x_ifeq, x_ifne, x_iflt, x_ifge, x_ifgt, x_ifle, x_iceq, x_icne, x_iclt, x_icge, x_icgt, x_icle, x_ifnull, x_ifnonnull, x_ldi, x_lda, x_sti, x_sta, x_iinc, x_gf, x_pf, x_ald, x_ast, x_aln, x_len, x_cl_, x_cv, x_cs, x_rc, x_r0, x_isT, x_oi, x_rv, x_ri, x_ra, Value.category, t140_0, t140_1, t140_2, t140_5, t140_6, t140_7, t140_10, t140_13, t140_14, t140_17, t140_18, t140_19, t140_20, t140_21, t140_24, t140_25, t140_26, t140_29, t140_30, t140_31, t140_34, t140_35, t140_38, t140_39, t140_40, t140_43, t140_44, t140_46, t140_49, t140_50, t140_51, t140_52, t140_53, t140_56, t140_57, t140_58, t140_61, t140_63, t140_64, t140_65, t140_66, t140_69, t140_71, t140_72, t140_73, t140_74, t140_75, t140_76, t140_77, t140_79, t140_81, t140_82, t140_83, t140_84, t140_87, t140_89, t140_90, t140_91, t140_92, t140_93, t140_94, t140_95, t140_96, t140_97, t140_99, t140_100, t140_103, t140_104, t140_106, t140_109, t140_110, t140_113, t140_115, t140_116, t140_117, t140_118, t140_119, t140_120, t140_123, t140_124, t140_126, t140_129, t140_130, t140_133, t140_135, t140_136, t140_138, t140_141, t140_142, t140_144, t140_145, t140_146, t140_149, t140_151, t140_152, t140_154, t140_155, t140_156, t140_158, t140_161, t140_162, t140_164, t140_167, t140_168, t140_170, t140_172, t140_175, t140_178, t140_179, t140_181, t140_183, t140_186, t140_189, t140_192, t140_193, t140_196, lk_s, hp_get, hp_set, uH_at, uH_ne, uH_upd, uH_swap, iZ_add, iZ_sub, iZ_mul, iZ_neg, iZ_lt, iZ_le, iZ_eq, iZ_div, iZ_of, ix_Z, gZ_map, gZ_mapI, gZ_map', le_0, le_s, sZ_map, sZ_len, bZ_0, bZ_inj, bZ_t, bZ_f, nr_i, nr_0, nr_1, nr_b, ft_i, ft_b, ft_0, ft_1, zl_0, zl_1, zl_7, zl_35, zl_44, zl_61, zl_99, zl_124, zl_126, mF_len, mg_0, mg_1, mg_2, mg_3, mg_4, mg_5, mg_6, mg_7, mg_8, mg_9, mg_10, mg_11, mg_12, mg_13, mg_14, mg_15, mg_16, mg_17, mg_18, mg_19, mg_20, mg_21, mg_22, mg_23, mg_24, mg_25, mg_26, mg_27, mg_28, mg_29, mg_30, mg_31, mg_32, mg_33, mg_34, mg_35, mg_36, mg_37, mg_38, ms_0, ms_1, ms_2, ms_13, ms_14, ms_15, ms_16, ms_21, ms_22, ms_23, ms_24, ms_28, ms_36, ms_37, ms_38, st_at, st_ne, st_st, st_swap, p0, p1, q4, q5, hm, h28', hh, mm, -List.filter_filter, -List.getElem?_map, -List.getD_eq_getElem?_getD]
    obtain ⟨w3, m3, lvB, T3, LB, g3⟩ := atom
    have LB' := LB
    obtain ⟨hcB, b0, b1', b3⟩ := LB'
    have C3 := c1_st (i := 3) (v := .int (iZ ((k : Int) + 1))) rfl hcB
    have eT : L2 ++ (if (lC D k).2.getD 0 0 = 99 then goT (tm (lC D k).2 1) [] ++ (61 :: goT ((lC D k).2.drop (1 + (tm (lC D k).2 1).length)) []) else goT (lC D k).2 []) = L1 ++ ltT (lC D k) := by
      rw [hL2, List.append_assoc]
      rfl
    rw [eT] at T3
    have ll := ltT_len hTk
    obtain ⟨w', m', T4, G4⟩ := ih (k + 1) w3 m3 (L1 ++ ltT (lC D k)) ((3, .int (iZ ((k : Int) + 1))) :: lvB.filter (x_keep 3)) (by omega) T3 (by rw [List.length_append]; omega) ⟨C3, by rw [lk_s hcB]; exact b0, by rw [lk_s hcB]; exact b1', by rw [lk_s hcB]; rfl⟩
    refine ⟨w', m', ?_, g99 _ (g1 _ (g2 _ (g3 _ (Gx.run 20 Cs.tt (fun K _ => ?_) G4))))⟩
    · show TSt w0 m0 i w' m' (L ++ ((if 0 < k then [124] else []) ++ (ltT (lC D k) ++ txL (D.drop (k + 1)) (k + 1))))
      rw [← List.append_assoc, ← hL1, ← List.append_assoc]
      exact T4
    · simp (disch := first | (refine c1_id ?_; assumption) | (refine c1_st rfl ?_; repeat (first | assumption | refine c1_st rfl ?_)) | omega) [nx_l, nx_r, nx_n, x_st, x_push, x_bin, x_div, x_un, x_dup, x_pop, x_dup2, x_goto, x_ifeq, x_ifne, x_iflt, x_ifge, x_ifgt, x_ifle, x_iceq, x_icne, x_iclt, x_icge, x_icgt, x_icle, x_ifnull, x_ifnonnull, x_ldi, x_lda, x_sti, x_sta, x_iinc, x_gf, x_pf, x_ald, x_ast, x_aln, x_len, x_cl_, x_cv, x_cs, x_rc, x_r0, x_isT, x_oi, x_rv, x_ri, x_ra, Value.category, t140_0, t140_1, t140_2, t140_5, t140_6, t140_7, t140_10, t140_13, t140_14, t140_17, t140_18, t140_19, t140_20, t140_21, t140_24, t140_25, t140_26, t140_29, t140_30, t140_31, t140_34, t140_35, t140_38, t140_39, t140_40, t140_43, t140_44, t140_46, t140_49, t140_50, t140_51, t140_52, t140_53, t140_56, t140_57, t140_58, t140_61, t140_63, t140_64, t140_65, t140_66, t140_69, t140_71, t140_72, t140_73, t140_74, t140_75, t140_76, t140_77, t140_79, t140_81, t140_82, t140_83, t140_84, t140_87, t140_89, t140_90, t140_91, t140_92, t140_93, t140_94, t140_95, t140_96, t140_97, t140_99, t140_100, t140_103, t140_104, t140_106, t140_109, t140_110, t140_113, t140_115, t140_116, t140_117, t140_118, t140_119, t140_120, t140_123, t140_124, t140_126, t140_129, t140_130, t140_133, t140_135, t140_136, t140_138, t140_141, t140_142, t140_144, t140_145, t140_146, t140_149, t140_151, t140_152, t140_154, t140_155, t140_156, t140_158, t140_161, t140_162, t140_164, t140_167, t140_168, t140_170, t140_172, t140_175, t140_178, t140_179, t140_181, t140_183, t140_186, t140_189, t140_192, t140_193, t140_196, lk_s, hp_get, hp_set, uH_at, uH_ne, uH_upd, uH_swap, iZ_add, iZ_sub, iZ_mul, iZ_neg, iZ_lt, iZ_le, iZ_eq, iZ_div, iZ_of, ix_Z, gZ_map, gZ_mapI, gZ_map', le_0, le_s, sZ_map, sZ_len, bZ_0, bZ_inj, bZ_t, bZ_f, nr_i, nr_0, nr_1, nr_b, ft_i, ft_b, ft_0, ft_1, zl_0, zl_1, zl_7, zl_35, zl_44, zl_61, zl_99, zl_124, zl_126, mF_len, mg_0, mg_1, mg_2, mg_3, mg_4, mg_5, mg_6, mg_7, mg_8, mg_9, mg_10, mg_11, mg_12, mg_13, mg_14, mg_15, mg_16, mg_17, mg_18, mg_19, mg_20, mg_21, mg_22, mg_23, mg_24, mg_25, mg_26, mg_27, mg_28, mg_29, mg_30, mg_31, mg_32, mg_33, mg_34, mg_35, mg_36, mg_37, mg_38, ms_0, ms_1, ms_2, ms_13, ms_14, ms_15, ms_16, ms_21, ms_22, ms_23, ms_24, ms_28, ms_36, ms_37, ms_38, st_at, st_ne, st_st, st_swap, b3, -List.filter_filter, -List.getElem?_map, -List.getD_eq_getElem?_getD]
end LT
section LV
variable {w : Nat → xC} {N : Nat} {m : Nat → Int} {x : Nat → List Int} {Ds : List (List (Int × List Int) × Bool × Int × Int)} {T U : List Int}
theorem m140 (d : Nat) (hN : 53 ≤ N) (h : RS w m x Ds T U) (c i : Int) (cr : -2147483648 ≤ c ∧ c < 2147483648) (ir : -2147483648 ≤ i ∧ i < 2147483648) : ∃ (w' : Nat → xC) (m' : Nat → Int) (x' : Nat → List Int), FrR w w' ∧ RS w' m' x' Ds T U ∧ m' 0 = 0 ∧ m' 1 = m 1 ∧ Xc (d + 3) 140 [.ref 30, .int (iZ c), .int (iZ i)] (hp w N) (some (.int (iZ (if inC Ds c = true ∧ 0 ≤ i then ltr (cl1 Ds c) i else -1))), hp w' N) := by
  have hm := h.1.1
  have hz := h.z0
  have hm1 := hz.1.1
  have X := m134 (d + 1) hN hz c cr
  have hc : c1 (lv_args 0 [.ref 30, .int (iZ c), .int (iZ i)]) := by simp [c1, lv_args, Value.category]
  have l0 : x_lk (lv_args 0 [.ref 30, .int (iZ c), .int (iZ i)]) 0 = some (.ref 30) := rfl
  have l1 : x_lk (lv_args 0 [.ref 30, .int (iZ c), .int (iZ i)]) 1 = some (.int (iZ c)) := rfl
  have l2 : x_lk (lv_args 0 [.ref 30, .int (iZ c), .int (iZ i)]) 2 = some (.int (iZ i)) := rfl
  obtain ⟨m1, hm1e⟩ : ∃ m1, m1 = st_ m 0 0 := ⟨_, rfl⟩
  obtain ⟨w1, hw1⟩ : ∃ w1, w1 = uH w 27 (.inr (8, mF m1)) := ⟨_, rfl⟩
  rw [← hm1e, ← hw1] at hz hm1
  rw [← hm1e, ← hw1] at X
  have F1 : FrR w w1 := by rw [hw1]; exact (FrR.rf w).up (by decide) (by decide)
  have g5 : ∀ res, Gx q_k140 (d + 2) 5 (lv_args 0 [.ref 30, .int (iZ c), .int (iZ i)], [], hp w1 N) res → Gx q_k140 (d + 2) 0 (lv_args 0 [.ref 30, .int (iZ c), .int (iZ i)], [], hp w N) res := fun res hg => by
    generalize lv_args 0 [.ref 30, .int (iZ c), .int (iZ i)] = lv at hc l0 l1 l2 hg
    refine Gx.run 20 Cs.tt (fun K _ => ?_) hg
    rw [hw1, hm1e]
    simp (disch := first | (refine c1_id ?_; assumption) | (refine c1_st rfl ?_; repeat (first | assumption | refine c1_st rfl ?_)) | omega) [nx_l, nx_r, nx_n, x_st, x_push, x_bin, x_div, x_un, x_dup, x_pop, x_dup2, x_goto, x_ifeq, x_ifne, x_iflt, x_ifge, x_ifgt, x_ifle, x_iceq, x_icne, x_iclt, x_icge, x_icgt, x_icle, x_ifnull, x_ifnonnull, x_ldi, x_lda, x_sti, x_sta, x_iinc, x_gf, x_pf, x_ald, x_ast, x_aln, x_len, x_cl_, x_cv, x_cs, x_rc, x_r0, x_isT, x_oi, x_rv, x_ri, x_ra, Value.category, t140_0, t140_1, t140_2, t140_5, t140_6, t140_7, t140_10, t140_13, t140_14, t140_17, t140_18, t140_19, t140_20, t140_21, t140_24, t140_25, t140_26, t140_29, t140_30, t140_31, t140_34, t140_35, t140_38, t140_39, t140_40, t140_43, t140_44, t140_46, t140_49, t140_50, t140_51, t140_52, t140_53, t140_56, t140_57, t140_58, t140_61, t140_63, t140_64, t140_65, t140_66, t140_69, t140_71, t140_72, t140_73, t140_74, t140_75, t140_76, t140_77, t140_79, t140_81, t140_82, t140_83, t140_84, t140_87, t140_89, t140_90, t140_91, t140_92, t140_93, t140_94, t140_95, t140_96, t140_97, t140_99, t140_100, t140_103, t140_104, t140_106, t140_109, t140_110, t140_113, t140_115, t140_116, t140_117, t140_118, t140_119, t140_120, t140_123, t140_124, t140_126, t140_129, t140_130, t140_133, t140_135, t140_136, t140_138, t140_141, t140_142, t140_144, t140_145, t140_146, t140_149, t140_151, t140_152, t140_154, t140_155, t140_156, t140_158, t140_161, t140_162, t140_164, t140_167, t140_168, t140_170, t140_172, t140_175, t140_178, t140_179, t140_181, t140_183, t140_186, t140_189, t140_192, t140_193, t140_196, lk_s, hp_get, hp_set, uH_at, uH_ne, uH_upd, uH_swap, iZ_add, iZ_sub, iZ_mul, iZ_neg, iZ_lt, iZ_le, iZ_eq, iZ_div, iZ_of, ix_Z, gZ_map, gZ_mapI, gZ_map', le_0, le_s, sZ_map, sZ_len, bZ_0, bZ_inj, bZ_t, bZ_f, nr_i, nr_0, nr_1, nr_b, ft_i, ft_b, ft_0, ft_1, zl_0, zl_1, zl_7, zl_35, zl_44, zl_61, zl_99, zl_124, zl_126, mF_len, mg_0, mg_1, mg_2, mg_3, mg_4, mg_5, mg_6, mg_7, mg_8, mg_9, mg_10, mg_11, mg_12, mg_13, mg_14, mg_15, mg_16, mg_17, mg_18, mg_19, mg_20, mg_21, mg_22, mg_23, mg_24, mg_25, mg_26, mg_27, mg_28, mg_29, mg_30, mg_31, mg_32, mg_33, mg_34, mg_35, mg_36, mg_37, mg_38, ms_0, ms_1, ms_2, ms_13, ms_14, ms_15, ms_16, ms_21, ms_22, ms_23, ms_24, ms_28, ms_36, ms_37, ms_38, st_at, st_ne, st_st, st_swap, l0, hm, -List.filter_filter, -List.getElem?_map, -List.getD_eq_getElem?_getD]
  have p0 : m1 0 = 0 := by rw [hm1e, st_at]
  have p1 : m1 1 = m 1 := by rw [hm1e]; exact st_ne (by decide)
  have le : ∀ (w' : Nat → xC) (m' : Nat → Int) (x' : Nat → List Int), RO w' m' x' → FrR w w' → x_le (hp w N) (hp w' N) := fun w' m' x' a f => h.1.le a (fun j hj => by rw [f j hj]; exact Nat.le_refl _)
  cases hin : inC Ds c with
  | false =>
    rw [hin, bZ_f] at X
    rw [if_neg (fun z => by cases z.1)]
    refine ⟨w1, m1, x, F1, hz, p0, p1, Xc.of rfl (by simp [lg_sl, Value.category]) (g5 _ ?_) (le w1 m1 x hz.1 F1)⟩
    generalize lv_args 0 [.ref 30, .int (iZ c), .int (iZ i)] = lv at hc l0 l1 l2
    refine Gx.fin 20 X (fun K mm => ?_)
    simp (disch := first | (refine c1_id ?_; assumption) | (refine c1_st rfl ?_; repeat (first | assumption | refine c1_st rfl ?_)) | omega) [nx_l, nx_r, nx_n, x_st, x_push, x_bin, x_div, x_un, x_dup, x_pop, x_dup2, x_goto, x_ifeq, x_ifne, x_iflt, x_ifge, x_ifgt, x_ifle, x_iceq, x_icne, x_iclt, x_icge, x_icgt, x_icle, x_ifnull, x_ifnonnull, x_ldi, x_lda, x_sti, x_sta, x_iinc, x_gf, x_pf, x_ald, x_ast, x_aln, x_len, x_cl_, x_cv, x_cs, x_rc, x_r0, x_isT, x_oi, x_rv, x_ri, x_ra, Value.category, t140_0, t140_1, t140_2, t140_5, t140_6, t140_7, t140_10, t140_13, t140_14, t140_17, t140_18, t140_19, t140_20, t140_21, t140_24, t140_25, t140_26, t140_29, t140_30, t140_31, t140_34, t140_35, t140_38, t140_39, t140_40, t140_43, t140_44, t140_46, t140_49, t140_50, t140_51, t140_52, t140_53, t140_56, t140_57, t140_58, t140_61, t140_63, t140_64, t140_65, t140_66, t140_69, t140_71, t140_72, t140_73, t140_74, t140_75, t140_76, t140_77, t140_79, t140_81, t140_82, t140_83, t140_84, t140_87, t140_89, t140_90, t140_91, t140_92, t140_93, t140_94, t140_95, t140_96, t140_97, t140_99, t140_100, t140_103, t140_104, t140_106, t140_109, t140_110, t140_113, t140_115, t140_116, t140_117, t140_118, t140_119, t140_120, t140_123, t140_124, t140_126, t140_129, t140_130, t140_133, t140_135, t140_136, t140_138, t140_141, t140_142, t140_144, t140_145, t140_146, t140_149, t140_151, t140_152, t140_154, t140_155, t140_156, t140_158, t140_161, t140_162, t140_164, t140_167, t140_168, t140_170, t140_172, t140_175, t140_178, t140_179, t140_181, t140_183, t140_186, t140_189, t140_192, t140_193, t140_196, lk_s, hp_get, hp_set, uH_at, uH_ne, uH_upd, uH_swap, iZ_add, iZ_sub, iZ_mul, iZ_neg, iZ_lt, iZ_le, iZ_eq, iZ_div, iZ_of, ix_Z, gZ_map, gZ_mapI, gZ_map', le_0, le_s, sZ_map, sZ_len, bZ_0, bZ_inj, bZ_t, bZ_f, nr_i, nr_0, nr_1, nr_b, ft_i, ft_b, ft_0, ft_1, zl_0, zl_1, zl_7, zl_35, zl_44, zl_61, zl_99, zl_124, zl_126, mF_len, mg_0, mg_1, mg_2, mg_3, mg_4, mg_5, mg_6, mg_7, mg_8, mg_9, mg_10, mg_11, mg_12, mg_13, mg_14, mg_15, mg_16, mg_17, mg_18, mg_19, mg_20, mg_21, mg_22, mg_23, mg_24, mg_25, mg_26, mg_27, mg_28, mg_29, mg_30, mg_31, mg_32, mg_33, mg_34, mg_35, mg_36, mg_37, mg_38, ms_0, ms_1, ms_2, ms_13, ms_14, ms_15, ms_16, ms_21, ms_22, ms_23, ms_24, ms_28, ms_36, ms_37, ms_38, st_at, st_ne, st_st, st_swap, l0, l1, hm1, mm, -List.filter_filter, -List.getElem?_map, -List.getD_eq_getElem?_getD]
  | true =>
    rw [hin, bZ_t] at X
    by_cases hi : 0 ≤ i
    · rw [if_pos ⟨rfl, hi⟩]
      have hc2 : 0 ≤ c ∧ c < Ds.length := by
        unfold inC at hin
        simpa using hin
      have c0 := hc2.1
      have h4 := h.2.2.2.1
      have c30 : c < 30 := by omega
      have hD : RD c (cl1 Ds c) x := hz.rd hc2.1 hc2.2
      have gD := hD.2.1
      have gD1 := gD.1
      have gD2 := gD.2.1
      obtain ⟨m2, hm2⟩ : ∃ m2, m2 = st_ (st_ (st_ m1 12 0) 13 i) 14 (-1) := ⟨_, rfl⟩
      obtain ⟨w2, hw2⟩ : ∃ w2, w2 = uH w1 27 (.inr (8, mF m2)) := ⟨_, rfl⟩
      have R2 : RO w2 m2 x := by rw [hw2]; exact hz.1.fld m2
      have F2 : FrR w w2 := by rw [hw2]; exact F1.up (by decide) (by decide)
      have k2 : ∀ q, q ≠ 12 → q ≠ 13 → q ≠ 14 → m2 q = m1 q := fun q a b e => by rw [hm2, st_ne e, st_ne b, st_ne a]
      have T0 : TSt w2 m2 i w2 m2 [] := ⟨Fr.rf _ _, R2.1, ⟨x 50, (R2.2 50 (by decide) (by decide)).1, (R2.2 50 (by decide) (by decide)).2⟩, fun _ _ _ => rfl, by rw [hm2, st_ne (by decide), st_ne (by decide), st_at]; rfl, by rw [hm2, st_ne (by decide), st_at], by rw [hm2, st_at, if_neg (by simp; omega)]⟩
      have hm2' := R2.1
      have h30 : w2 30 = cI 0 (x 30) := (R2.2 30 (by decide) (by decide)).1
      have n30 : (x 30).length = 30 := (R2.2 30 (by decide) (by decide)).2
      have a7 : gZ (x 30) c = ((cl1 Ds c).length : Int) := hD.1.2.2.2.2.2.2.1
      have g34 : ∀ res, Gx q_k140 (d + 2) 34 (lv_args 0 [.ref 30, .int (iZ c), .int (iZ i)], [], hp w2 N) res → Gx q_k140 (d + 2) 5 (lv_args 0 [.ref 30, .int (iZ c), .int (iZ i)], [], hp w1 N) res := fun res hg => by
        generalize lv_args 0 [.ref 30, .int (iZ c), .int (iZ i)] = lv at hc l0 l1 l2 hg
        refine Gx.run 40 X (fun K mm => ?_) hg
        rw [hw2, hm2]
        simp (disch := first | (refine c1_id ?_; assumption) | (refine c1_st rfl ?_; repeat (first | assumption | refine c1_st rfl ?_)) | omega) [nx_l, nx_r, nx_n, x_st, x_push, x_bin, x_div, x_un, x_dup, x_pop, x_dup2, x_goto, x_ifeq, x_ifne, x_iflt, x_ifge, x_ifgt, x_ifle, x_iceq, x_icne, x_iclt, x_icge, x_icgt, x_icle, x_ifnull, x_ifnonnull, x_ldi, x_lda, x_sti, x_sta, x_iinc, x_gf, x_pf, x_ald, x_ast, x_aln, x_len, x_cl_, x_cv, x_cs, x_rc, x_r0, x_isT, x_oi, x_rv, x_ri, x_ra, Value.category, t140_0, t140_1, t140_2, t140_5, t140_6, t140_7, t140_10, t140_13, t140_14, t140_17, t140_18, t140_19, t140_20, t140_21, t140_24, t140_25, t140_26, t140_29, t140_30, t140_31, t140_34, t140_35, t140_38, t140_39, t140_40, t140_43, t140_44, t140_46, t140_49, t140_50, t140_51, t140_52, t140_53, t140_56, t140_57, t140_58, t140_61, t140_63, t140_64, t140_65, t140_66, t140_69, t140_71, t140_72, t140_73, t140_74, t140_75, t140_76, t140_77, t140_79, t140_81, t140_82, t140_83, t140_84, t140_87, t140_89, t140_90, t140_91, t140_92, t140_93, t140_94, t140_95, t140_96, t140_97, t140_99, t140_100, t140_103, t140_104, t140_106, t140_109, t140_110, t140_113, t140_115, t140_116, t140_117, t140_118, t140_119, t140_120, t140_123, t140_124, t140_126, t140_129, t140_130, t140_133, t140_135, t140_136, t140_138, t140_141, t140_142, t140_144, t140_145, t140_146, t140_149, t140_151, t140_152, t140_154, t140_155, t140_156, t140_158, t140_161, t140_162, t140_164, t140_167, t140_168, t140_170, t140_172, t140_175, t140_178, t140_179, t140_181, t140_183, t140_186, t140_189, t140_192, t140_193, t140_196, lk_s, hp_get, hp_set, uH_at, uH_ne, uH_upd, uH_swap, iZ_add, iZ_sub, iZ_mul, iZ_neg, iZ_lt, iZ_le, iZ_eq, iZ_div, iZ_of, ix_Z, gZ_map, gZ_mapI, gZ_map', le_0, le_s, sZ_map, sZ_len, bZ_0, bZ_inj, bZ_t, bZ_f, nr_i, nr_0, nr_1, nr_b, ft_i, ft_b, ft_0, ft_1, zl_0, zl_1, zl_7, zl_35, zl_44, zl_61, zl_99, zl_124, zl_126, mF_len, mg_0, mg_1, mg_2, mg_3, mg_4, mg_5, mg_6, mg_7, mg_8, mg_9, mg_10, mg_11, mg_12, mg_13, mg_14, mg_15, mg_16, mg_17, mg_18, mg_19, mg_20, mg_21, mg_22, mg_23, mg_24, mg_25, mg_26, mg_27, mg_28, mg_29, mg_30, mg_31, mg_32, mg_33, mg_34, mg_35, mg_36, mg_37, mg_38, ms_0, ms_1, ms_2, ms_13, ms_14, ms_15, ms_16, ms_21, ms_22, ms_23, ms_24, ms_28, ms_36, ms_37, ms_38, st_at, st_ne, st_st, st_swap, l0, l1, l2, hm1, hi, mm, -List.filter_filter, -List.getElem?_map, -List.getD_eq_getElem?_getD]
      have C3 := c1_st (i := 3) (v := .int (iZ 0)) rfl hc
      have hash : ∃ (w3 : Nat → xC) (m3 : Nat → Int), TSt w2 m2 i w3 m3 (if (cl1 Ds c).length = 0 then [35] else []) ∧ ∀ res, Gx q_k140 (d + 2) 51 ((3, .int (iZ 0)) :: List.filter (x_keep 3) (lv_args 0 [.ref 30, .int (iZ c), .int (iZ i)]), [], hp w3 N) res → Gx q_k140 (d + 2) 34 (lv_args 0 [.ref 30, .int (iZ c), .int (iZ i)], [], hp w2 N) res := by
        by_cases hl0 : (cl1 Ds c).length = 0
        · rw [if_pos hl0]
          obtain ⟨w3, m3, t1, X3⟩ := T0.tell (d + 1) hN hi ir.2 (by simp) 35
          refine ⟨w3, m3, t1, fun res hg => ?_⟩
          generalize lv_args 0 [.ref 30, .int (iZ c), .int (iZ i)] = lv at hc l0 l1 l2 hg
          rw [hl0] at a7
          have a7' : gZ (x 30) c = 0 := a7
          refine Gx.run 40 X3 (fun K mm => ?_) hg
          simp (disch := first | (refine c1_id ?_; assumption) | (refine c1_st rfl ?_; repeat (first | assumption | refine c1_st rfl ?_)) | omega) [nx_l, nx_r, nx_n, x_st, x_push, x_bin, x_div, x_un, x_dup, x_pop, x_dup2, x_goto, x_ifeq, x_ifne, x_iflt, x_ifge, x_ifgt, x_ifle, x_iceq, x_icne, x_iclt, x_icge, x_icgt, x_icle, x_ifnull, x_ifnonnull, x_ldi, x_lda, x_sti, x_sta, x_iinc, x_gf, x_pf, x_ald, x_ast, x_aln, x_len, x_cl_, x_cv, x_cs, x_rc, x_r0, x_isT, x_oi, x_rv, x_ri, x_ra, Value.category, t140_0, t140_1, t140_2, t140_5, t140_6, t140_7, t140_10, t140_13, t140_14, t140_17, t140_18, t140_19, t140_20, t140_21, t140_24, t140_25, t140_26, t140_29, t140_30, t140_31, t140_34, t140_35, t140_38, t140_39, t140_40, t140_43, t140_44, t140_46, t140_49, t140_50, t140_51, t140_52, t140_53, t140_56, t140_57, t140_58, t140_61, t140_63, t140_64, t140_65, t140_66, t140_69, t140_71, t140_72, t140_73, t140_74, t140_75, t140_76, t140_77, t140_79, t140_81, t140_82, t140_83, t140_84, t140_87, t140_89, t140_90, t140_91, t140_92, t140_93, t140_94, t140_95, t140_96, t140_97, t140_99, t140_100, t140_103, t140_104, t140_106, t140_109, t140_110, t140_113, t140_115, t140_116, t140_117, t140_118, t140_119, t140_120, t140_123, t140_124, t140_126, t140_129, t140_130, t140_133, t140_135, t140_136, t140_138, t140_141, t140_142, t140_144, t140_145, t140_146, t140_149, t140_151, t140_152, t140_154, t140_155, t140_156, t140_158, t140_161, t140_162, t140_164, t140_167, t140_168, t140_170, t140_172, t140_175, t140_178, t140_179, t140_181, t140_183, t140_186, t140_189, t140_192, t140_193, t140_196, lk_s, hp_get, hp_set, uH_at, uH_ne, uH_upd, uH_swap, iZ_add, iZ_sub, iZ_mul, iZ_neg, iZ_lt, iZ_le, iZ_eq, iZ_div, iZ_of, ix_Z, gZ_map, gZ_mapI, gZ_map', le_0, le_s, sZ_map, sZ_len, bZ_0, bZ_inj, bZ_t, bZ_f, nr_i, nr_0, nr_1, nr_b, ft_i, ft_b, ft_0, ft_1, zl_0, zl_1, zl_7, zl_35, zl_44, zl_61, zl_99, zl_124, zl_126, mF_len, mg_0, mg_1, mg_2, mg_3, mg_4, mg_5, mg_6, mg_7, mg_8, mg_9, mg_10, mg_11, mg_12, mg_13, mg_14, mg_15, mg_16, mg_17, mg_18, mg_19, mg_20, mg_21, mg_22, mg_23, mg_24, mg_25, mg_26, mg_27, mg_28, mg_29, mg_30, mg_31, mg_32, mg_33, mg_34, mg_35, mg_36, mg_37, mg_38, ms_0, ms_1, ms_2, ms_13, ms_14, ms_15, ms_16, ms_21, ms_22, ms_23, ms_24, ms_28, ms_36, ms_37, ms_38, st_at, st_ne, st_st, st_swap, l0, l1, l2, hm2', h30, a7', mm, -List.filter_filter, -List.getElem?_map, -List.getD_eq_getElem?_getD]
        · rw [if_neg hl0]
          refine ⟨w2, m2, T0, fun res hg => ?_⟩
          generalize lv_args 0 [.ref 30, .int (iZ c), .int (iZ i)] = lv at hc l0 l1 l2 hg
          obtain ⟨v, hv⟩ : ∃ v : Int, v = ((cl1 Ds c).length : Int) := ⟨_, rfl⟩
          rw [← hv] at a7
          have v0 : ¬ v = 0 := by omega
          have v1 : 0 ≤ v := by omega
          have v9 : v ≤ 6 := by omega
          refine Gx.run 40 Cs.tt (fun K _ => ?_) hg
          simp (disch := first | (refine c1_id ?_; assumption) | (refine c1_st rfl ?_; repeat (first | assumption | refine c1_st rfl ?_)) | omega) [nx_l, nx_r, nx_n, x_st, x_push, x_bin, x_div, x_un, x_dup, x_pop, x_dup2, x_goto, x_ifeq, x_ifne, x_iflt, x_ifge, x_ifgt, x_ifle, x_iceq, x_icne, x_iclt, x_icge, x_icgt, x_icle, x_ifnull, x_ifnonnull, x_ldi, x_lda, x_sti, x_sta, x_iinc, x_gf, x_pf, x_ald, x_ast, x_aln, x_len, x_cl_, x_cv, x_cs, x_rc, x_r0, x_isT, x_oi, x_rv, x_ri, x_ra, Value.category, t140_0, t140_1, t140_2, t140_5, t140_6, t140_7, t140_10, t140_13, t140_14, t140_17, t140_18, t140_19, t140_20, t140_21, t140_24, t140_25, t140_26, t140_29, t140_30, t140_31, t140_34, t140_35, t140_38, t140_39, t140_40, t140_43, t140_44, t140_46, t140_49, t140_50, t140_51, t140_52, t140_53, t140_56, t140_57, t140_58, t140_61, t140_63, t140_64, t140_65, t140_66, t140_69, t140_71, t140_72, t140_73, t140_74, t140_75, t140_76, t140_77, t140_79, t140_81, t140_82, t140_83, t140_84, t140_87, t140_89, t140_90, t140_91, t140_92, t140_93, t140_94, t140_95, t140_96, t140_97, t140_99, t140_100, t140_103, t140_104, t140_106, t140_109, t140_110, t140_113, t140_115, t140_116, t140_117, t140_118, t140_119, t140_120, t140_123, t140_124, t140_126, t140_129, t140_130, t140_133, t140_135, t140_136, t140_138, t140_141, t140_142, t140_144, t140_145, t140_146, t140_149, t140_151, t140_152, t140_154, t140_155, t140_156, t140_158, t140_161, t140_162, t140_164, t140_167, t140_168, t140_170, t140_172, t140_175, t140_178, t140_179, t140_181, t140_183, t140_186, t140_189, t140_192, t140_193, t140_196, lk_s, hp_get, hp_set, uH_at, uH_ne, uH_upd, uH_swap, iZ_add, iZ_sub, iZ_mul, iZ_neg, iZ_lt, iZ_le, iZ_eq, iZ_div, iZ_of, ix_Z, gZ_map, gZ_mapI, gZ_map', le_0, le_s, sZ_map, sZ_len, bZ_0, bZ_inj, bZ_t, bZ_f, nr_i, nr_0, nr_1, nr_b, ft_i, ft_b, ft_0, ft_1, zl_0, zl_1, zl_7, zl_35, zl_44, zl_61, zl_99, zl_124, zl_126, mF_len, mg_0, mg_1, mg_2, mg_3, mg_4, mg_5, mg_6, mg_7, mg_8, mg_9, mg_10, mg_11, mg_12, mg_13, mg_14, mg_15, mg_16, mg_17, mg_18, mg_19, mg_20, mg_21, mg_22, mg_23, mg_24, mg_25, mg_26, mg_27, mg_28, mg_29, mg_30, mg_31, mg_32, mg_33, mg_34, mg_35, mg_36, mg_37, mg_38, ms_0, ms_1, ms_2, ms_13, ms_14, ms_15, ms_16, ms_21, ms_22, ms_23, ms_24, ms_28, ms_36, ms_37, ms_38, st_at, st_ne, st_st, st_swap, l0, l1, l2, hm2', h30, a7, v0, -List.filter_filter, -List.getElem?_map, -List.getD_eq_getElem?_getD]
      obtain ⟨w3, m3, T3, g3⟩ := hash
      have hl3 : (if (cl1 Ds c).length = 0 then [35] else ([] : List Int)).length ≤ 1 := by split <;> simp
      obtain ⟨w4, m4, T4, G4⟩ := l140 d hN R2 hz.2.1 hD hi ir.2 (cl1 Ds c).length 0 w3 m3 _ _ (by omega) T3 (by rw [stC_0]; omega) ⟨C3, by rw [lk_s hc]; exact l0, by rw [lk_s hc]; exact l1, by rw [lk_s hc]; rfl⟩
      rw [List.drop_zero] at T4
      have eL : (if (cl1 Ds c).length = 0 then [35] else ([] : List Int)) ++ txL (cl1 Ds c) 0 = txC (cl1 Ds c) := by
        unfold txC
        by_cases hl0 : (cl1 Ds c).length = 0
        · rw [if_pos hl0, if_pos hl0, List.eq_nil_of_length_eq_zero hl0]
          rfl
        · rw [if_neg hl0, if_neg hl0, List.nil_append]
      rw [eL] at T4
      obtain ⟨f1, f2, ⟨En, f3, f4⟩, f5, f6⟩ := T4
      have ev : m4 14 = ltr (cl1 Ds c) i := f6.2.2
      rw [ev] at G4
      have R4 : RO w4 m4 (ux x 50 En) := by
        refine ⟨f2, fun j j0 j1 => ?_⟩
        by_cases e : j = 50
        · subst e
          rw [ux_at]
          exact ⟨f3, f4⟩
        · rw [ux_ne e, f1 j (by
            unfold ksE
            simp only [List.mem_cons, List.not_mem_nil, or_false]
            omega)]
          exact R2.2 j j0 j1
      have F4 : FrR w w4 := F2.tr (FrR.of f1 (by decide))
      have h8 := hz.2.2.2.2.2.2.2
      have mq : ∀ q, q ≠ 12 → q ≠ 13 → q ≠ 14 → m4 q = m1 q := fun q a b e => (f5 q a e).trans (k2 q a b e)
      have S4 : RS w4 m4 (ux x 50 En) Ds T U := hz.mv R4 ⟨hz.2.1.1, hz.2.1.2⟩ (fun j j0 j1 => ux_ne (by omega)) (mq 2 (by decide) (by decide) (by decide)) (by rw [mq 3 (by decide) (by decide) (by decide)]; exact h8.1) h8.2.1 h8.2.2.1 h8.2.2.2
      exact ⟨w4, m4, _, F4, S4, by rw [mq 0 (by decide) (by decide) (by decide)]; exact p0, by rw [mq 1 (by decide) (by decide) (by decide)]; exact p1, Xc.of rfl (by simp [lg_sl, Value.category]) (g5 _ (g34 _ (g3 _ G4))) (le w4 m4 _ R4 F4)⟩
    · rw [if_neg (fun z => hi z.2)]
      refine ⟨w1, m1, x, F1, hz, p0, p1, Xc.of rfl (by simp [lg_sl, Value.category]) (g5 _ ?_) (le w1 m1 x hz.1 F1)⟩
      generalize lv_args 0 [.ref 30, .int (iZ c), .int (iZ i)] = lv at hc l0 l1 l2
      refine Gx.fin 20 X (fun K mm => ?_)
      simp (disch := first | (refine c1_id ?_; assumption) | (refine c1_st rfl ?_; repeat (first | assumption | refine c1_st rfl ?_)) | omega) [nx_l, nx_r, nx_n, x_st, x_push, x_bin, x_div, x_un, x_dup, x_pop, x_dup2, x_goto, x_ifeq, x_ifne, x_iflt, x_ifge, x_ifgt, x_ifle, x_iceq, x_icne, x_iclt, x_icge, x_icgt, x_icle, x_ifnull, x_ifnonnull, x_ldi, x_lda, x_sti, x_sta, x_iinc, x_gf, x_pf, x_ald, x_ast, x_aln, x_len, x_cl_, x_cv, x_cs, x_rc, x_r0, x_isT, x_oi, x_rv, x_ri, x_ra, Value.category, t140_0, t140_1, t140_2, t140_5, t140_6, t140_7, t140_10, t140_13, t140_14, t140_17, t140_18, t140_19, t140_20, t140_21, t140_24, t140_25, t140_26, t140_29, t140_30, t140_31, t140_34, t140_35, t140_38, t140_39, t140_40, t140_43, t140_44, t140_46, t140_49, t140_50, t140_51, t140_52, t140_53, t140_56, t140_57, t140_58, t140_61, t140_63, t140_64, t140_65, t140_66, t140_69, t140_71, t140_72, t140_73, t140_74, t140_75, t140_76, t140_77, t140_79, t140_81, t140_82, t140_83, t140_84, t140_87, t140_89, t140_90, t140_91, t140_92, t140_93, t140_94, t140_95, t140_96, t140_97, t140_99, t140_100, t140_103, t140_104, t140_106, t140_109, t140_110, t140_113, t140_115, t140_116, t140_117, t140_118, t140_119, t140_120, t140_123, t140_124, t140_126, t140_129, t140_130, t140_133, t140_135, t140_136, t140_138, t140_141, t140_142, t140_144, t140_145, t140_146, t140_149, t140_151, t140_152, t140_154, t140_155, t140_156, t140_158, t140_161, t140_162, t140_164, t140_167, t140_168, t140_170, t140_172, t140_175, t140_178, t140_179, t140_181, t140_183, t140_186, t140_189, t140_192, t140_193, t140_196, lk_s, hp_get, hp_set, uH_at, uH_ne, uH_upd, uH_swap, iZ_add, iZ_sub, iZ_mul, iZ_neg, iZ_lt, iZ_le, iZ_eq, iZ_div, iZ_of, ix_Z, gZ_map, gZ_mapI, gZ_map', le_0, le_s, sZ_map, sZ_len, bZ_0, bZ_inj, bZ_t, bZ_f, nr_i, nr_0, nr_1, nr_b, ft_i, ft_b, ft_0, ft_1, zl_0, zl_1, zl_7, zl_35, zl_44, zl_61, zl_99, zl_124, zl_126, mF_len, mg_0, mg_1, mg_2, mg_3, mg_4, mg_5, mg_6, mg_7, mg_8, mg_9, mg_10, mg_11, mg_12, mg_13, mg_14, mg_15, mg_16, mg_17, mg_18, mg_19, mg_20, mg_21, mg_22, mg_23, mg_24, mg_25, mg_26, mg_27, mg_28, mg_29, mg_30, mg_31, mg_32, mg_33, mg_34, mg_35, mg_36, mg_37, mg_38, ms_0, ms_1, ms_2, ms_13, ms_14, ms_15, ms_16, ms_21, ms_22, ms_23, ms_24, ms_28, ms_36, ms_37, ms_38, st_at, st_ne, st_st, st_swap, l0, l1, l2, hm1, hi, mm, -List.filter_filter, -List.getElem?_map, -List.getD_eq_getElem?_getD]
end LV
