/-! the reference: a literal is ended; variables are called by their order -/
theorem f116_0 : x_fetch q_k116 0 = x_lda 1 0 := rfl
theorem t116_0 (C : xF) (s n : Nat) (z : xS) : x_to q_k116 C s (n + 1) 0 z = x_nx q_k116 C s n ((x_lda 1 0) C z) := x_to_at f116_0 C s n z
theorem f116_1 : x_fetch q_k116 1 = x_st (x_dup 2) := rfl
theorem t116_1 (C : xF) (s n : Nat) (z : xS) : x_to q_k116 C s (n + 1) 1 z = x_nx q_k116 C s n ((x_st (x_dup 2)) C z) := x_to_at f116_1 C s n z
theorem f116_2 : x_fetch q_k116 2 = x_gf 5 8 22 := rfl
theorem t116_2 (C : xF) (s n : Nat) (z : xS) : x_to q_k116 C s (n + 1) 2 z = x_nx q_k116 C s n ((x_gf 5 8 22) C z) := x_to_at f116_2 C s n z
theorem f116_5 : x_fetch q_k116 5 = x_st (x_push 6 (.int (1))) := rfl
theorem t116_5 (C : xF) (s n : Nat) (z : xS) : x_to q_k116 C s (n + 1) 5 z = x_nx q_k116 C s n ((x_st (x_push 6 (.int (1)))) C z) := x_to_at f116_5 C s n z
theorem f116_6 : x_fetch q_k116 6 = x_st (x_bin 7 (fun a b => a + b)) := rfl
theorem t116_6 (C : xF) (s n : Nat) (z : xS) : x_to q_k116 C s (n + 1) 6 z = x_nx q_k116 C s n ((x_st (x_bin 7 (fun a b => a + b))) C z) := x_to_at f116_6 C s n z
theorem f116_7 : x_fetch q_k116 7 = x_pf 10 8 22 (.int) := rfl
theorem t116_7 (C : xF) (s n : Nat) (z : xS) : x_to q_k116 C s (n + 1) 7 z = x_nx q_k116 C s n ((x_pf 10 8 22 (.int)) C z) := x_to_at f116_7 C s n z
theorem f116_10 : x_fetch q_k116 10 = x_lda 11 0 := rfl
theorem t116_10 (C : xF) (s n : Nat) (z : xS) : x_to q_k116 C s (n + 1) 10 z = x_nx q_k116 C s n ((x_lda 11 0) C z) := x_to_at f116_10 C s n z
theorem f116_11 : x_fetch q_k116 11 = x_gf 14 8 18 := rfl
theorem t116_11 (C : xF) (s n : Nat) (z : xS) : x_to q_k116 C s (n + 1) 11 z = x_nx q_k116 C s n ((x_gf 14 8 18) C z) := x_to_at f116_11 C s n z
theorem f116_14 : x_fetch q_k116 14 = x_lda 15 0 := rfl
theorem t116_14 (C : xF) (s n : Nat) (z : xS) : x_to q_k116 C s (n + 1) 14 z = x_nx q_k116 C s n ((x_lda 15 0) C z) := x_to_at f116_14 C s n z
theorem f116_15 : x_fetch q_k116 15 = x_gf 18 8 22 := rfl
theorem t116_15 (C : xF) (s n : Nat) (z : xS) : x_to q_k116 C s (n + 1) 15 z = x_nx q_k116 C s n ((x_gf 18 8 22) C z) := x_to_at f116_15 C s n z
theorem f116_18 : x_fetch q_k116 18 = x_lda 19 0 := rfl
theorem t116_18 (C : xF) (s n : Nat) (z : xS) : x_to q_k116 C s (n + 1) 18 z = x_nx q_k116 C s n ((x_lda 19 0) C z) := x_to_at f116_18 C s n z
theorem f116_19 : x_fetch q_k116 19 = x_gf 22 8 21 := rfl
theorem t116_19 (C : xF) (s n : Nat) (z : xS) : x_to q_k116 C s (n + 1) 19 z = x_nx q_k116 C s n ((x_gf 22 8 21) C z) := x_to_at f116_19 C s n z
theorem f116_22 : x_fetch q_k116 22 = x_ast 23 0 (fun x => x) := rfl
theorem t116_22 (C : xF) (s n : Nat) (z : xS) : x_to q_k116 C s (n + 1) 22 z = x_nx q_k116 C s n ((x_ast 23 0 (fun x => x)) C z) := x_to_at f116_22 C s n z
theorem f116_23 : x_fetch q_k116 23 = x_lda 24 0 := rfl
theorem t116_23 (C : xF) (s n : Nat) (z : xS) : x_to q_k116 C s (n + 1) 23 z = x_nx q_k116 C s n ((x_lda 24 0) C z) := x_to_at f116_23 C s n z
theorem f116_24 : x_fetch q_k116 24 = x_gf 27 8 24 := rfl
theorem t116_24 (C : xF) (s n : Nat) (z : xS) : x_to q_k116 C s (n + 1) 24 z = x_nx q_k116 C s n ((x_gf 27 8 24) C z) := x_to_at f116_24 C s n z
theorem f116_27 : x_fetch q_k116 27 = x_st (x_ifne 66 30) := rfl
theorem t116_27 (C : xF) (s n : Nat) (z : xS) : x_to q_k116 C s (n + 1) 27 z = x_nx q_k116 C s n ((x_st (x_ifne 66 30)) C z) := x_to_at f116_27 C s n z
theorem f116_30 : x_fetch q_k116 30 = x_lda 31 0 := rfl
theorem t116_30 (C : xF) (s n : Nat) (z : xS) : x_to q_k116 C s (n + 1) 30 z = x_nx q_k116 C s n ((x_lda 31 0) C z) := x_to_at f116_30 C s n z
theorem f116_31 : x_fetch q_k116 31 = x_lda 32 0 := rfl
theorem t116_31 (C : xF) (s n : Nat) (z : xS) : x_to q_k116 C s (n + 1) 31 z = x_nx q_k116 C s n ((x_lda 32 0) C z) := x_to_at f116_31 C s n z
theorem f116_32 : x_fetch q_k116 32 = x_gf 35 8 22 := rfl
theorem t116_32 (C : xF) (s n : Nat) (z : xS) : x_to q_k116 C s (n + 1) 32 z = x_nx q_k116 C s n ((x_gf 35 8 22) C z) := x_to_at f116_32 C s n z
theorem f116_35 : x_fetch q_k116 35 = x_st (x_push 36 (.int (1))) := rfl
theorem t116_35 (C : xF) (s n : Nat) (z : xS) : x_to q_k116 C s (n + 1) 35 z = x_nx q_k116 C s n ((x_st (x_push 36 (.int (1)))) C z) := x_to_at f116_35 C s n z
theorem f116_36 : x_fetch q_k116 36 = x_st (x_bin 37 (fun a b => a - b)) := rfl
theorem t116_36 (C : xF) (s n : Nat) (z : xS) : x_to q_k116 C s (n + 1) 36 z = x_nx q_k116 C s n ((x_st (x_bin 37 (fun a b => a - b))) C z) := x_to_at f116_36 C s n z
theorem f116_37 : x_fetch q_k116 37 = x_cv 40 104 2 8 := rfl
theorem t116_37 (C : xF) (s n : Nat) (z : xS) : x_to q_k116 C s (n + 1) 37 z = x_nx q_k116 C s n ((x_cv 40 104 2 8) C z) := x_to_at f116_37 C s n z
theorem f116_40 : x_fetch q_k116 40 = x_st (x_ifeq 66 43) := rfl
theorem t116_40 (C : xF) (s n : Nat) (z : xS) : x_to q_k116 C s (n + 1) 40 z = x_nx q_k116 C s n ((x_st (x_ifeq 66 43)) C z) := x_to_at f116_40 C s n z
theorem f116_43 : x_fetch q_k116 43 = x_lda 44 0 := rfl
theorem t116_43 (C : xF) (s n : Nat) (z : xS) : x_to q_k116 C s (n + 1) 43 z = x_nx q_k116 C s n ((x_lda 44 0) C z) := x_to_at f116_43 C s n z
theorem f116_44 : x_fetch q_k116 44 = x_st (x_dup 45) := rfl
theorem t116_44 (C : xF) (s n : Nat) (z : xS) : x_to q_k116 C s (n + 1) 44 z = x_nx q_k116 C s n ((x_st (x_dup 45)) C z) := x_to_at f116_44 C s n z
theorem f116_45 : x_fetch q_k116 45 = x_gf 48 8 22 := rfl
theorem t116_45 (C : xF) (s n : Nat) (z : xS) : x_to q_k116 C s (n + 1) 45 z = x_nx q_k116 C s n ((x_gf 48 8 22) C z) := x_to_at f116_45 C s n z
theorem f116_48 : x_fetch q_k116 48 = x_st (x_push 49 (.int (1))) := rfl
theorem t116_48 (C : xF) (s n : Nat) (z : xS) : x_to q_k116 C s (n + 1) 48 z = x_nx q_k116 C s n ((x_st (x_push 49 (.int (1)))) C z) := x_to_at f116_48 C s n z
theorem f116_49 : x_fetch q_k116 49 = x_st (x_bin 50 (fun a b => a - b)) := rfl
theorem t116_49 (C : xF) (s n : Nat) (z : xS) : x_to q_k116 C s (n + 1) 49 z = x_nx q_k116 C s n ((x_st (x_bin 50 (fun a b => a - b))) C z) := x_to_at f116_49 C s n z
theorem f116_50 : x_fetch q_k116 50 = x_pf 53 8 22 (.int) := rfl
theorem t116_50 (C : xF) (s n : Nat) (z : xS) : x_to q_k116 C s (n + 1) 50 z = x_nx q_k116 C s n ((x_pf 53 8 22 (.int)) C z) := x_to_at f116_50 C s n z
theorem f116_53 : x_fetch q_k116 53 = x_lda 54 0 := rfl
theorem t116_53 (C : xF) (s n : Nat) (z : xS) : x_to q_k116 C s (n + 1) 53 z = x_nx q_k116 C s n ((x_lda 54 0) C z) := x_to_at f116_53 C s n z
theorem f116_54 : x_fetch q_k116 54 = x_lda 55 0 := rfl
theorem t116_54 (C : xF) (s n : Nat) (z : xS) : x_to q_k116 C s (n + 1) 54 z = x_nx q_k116 C s n ((x_lda 55 0) C z) := x_to_at f116_54 C s n z
theorem f116_55 : x_fetch q_k116 55 = x_gf 58 8 18 := rfl
theorem t116_55 (C : xF) (s n : Nat) (z : xS) : x_to q_k116 C s (n + 1) 55 z = x_nx q_k116 C s n ((x_gf 58 8 18) C z) := x_to_at f116_55 C s n z
theorem f116_58 : x_fetch q_k116 58 = x_lda 59 0 := rfl
theorem t116_58 (C : xF) (s n : Nat) (z : xS) : x_to q_k116 C s (n + 1) 58 z = x_nx q_k116 C s n ((x_lda 59 0) C z) := x_to_at f116_58 C s n z
theorem f116_59 : x_fetch q_k116 59 = x_gf 62 8 22 := rfl
theorem t116_59 (C : xF) (s n : Nat) (z : xS) : x_to q_k116 C s (n + 1) 59 z = x_nx q_k116 C s n ((x_gf 62 8 22) C z) := x_to_at f116_59 C s n z
theorem f116_62 : x_fetch q_k116 62 = x_ald 63 0 := rfl
theorem t116_62 (C : xF) (s n : Nat) (z : xS) : x_to q_k116 C s (n + 1) 62 z = x_nx q_k116 C s n ((x_ald 63 0) C z) := x_to_at f116_62 C s n z
theorem f116_63 : x_fetch q_k116 63 = x_pf 66 8 21 (.int) := rfl
theorem t116_63 (C : xF) (s n : Nat) (z : xS) : x_to q_k116 C s (n + 1) 63 z = x_nx q_k116 C s n ((x_pf 66 8 21 (.int)) C z) := x_to_at f116_63 C s n z
theorem f116_66 : x_fetch q_k116 66 = x_rv := rfl
theorem t116_66 (C : xF) (s n : Nat) (z : xS) : x_to q_k116 C s (n + 1) 66 z = x_nx q_k116 C s n ((x_rv) C z) := x_to_at f116_66 C s n z
theorem f106_0 : x_fetch q_k106 0 = x_lda 1 0 := rfl
theorem t106_0 (C : xF) (s n : Nat) (z : xS) : x_to q_k106 C s (n + 1) 0 z = x_nx q_k106 C s n ((x_lda 1 0) C z) := x_to_at f106_0 C s n z
theorem f106_1 : x_fetch q_k106 1 = x_st (x_push 2 (.int (0))) := rfl
theorem t106_1 (C : xF) (s n : Nat) (z : xS) : x_to q_k106 C s (n + 1) 1 z = x_nx q_k106 C s n ((x_st (x_push 2 (.int (0)))) C z) := x_to_at f106_1 C s n z
theorem f106_2 : x_fetch q_k106 2 = x_pf 5 8 23 (.int) := rfl
theorem t106_2 (C : xF) (s n : Nat) (z : xS) : x_to q_k106 C s (n + 1) 2 z = x_nx q_k106 C s n ((x_pf 5 8 23 (.int)) C z) := x_to_at f106_2 C s n z
theorem f106_5 : x_fetch q_k106 5 = x_st (x_push 6 (.int (0))) := rfl
theorem t106_5 (C : xF) (s n : Nat) (z : xS) : x_to q_k106 C s (n + 1) 5 z = x_nx q_k106 C s n ((x_st (x_push 6 (.int (0)))) C z) := x_to_at f106_5 C s n z
theorem f106_6 : x_fetch q_k106 6 = x_sti 7 1 := rfl
theorem t106_6 (C : xF) (s n : Nat) (z : xS) : x_to q_k106 C s (n + 1) 6 z = x_nx q_k106 C s n ((x_sti 7 1) C z) := x_to_at f106_6 C s n z
theorem f106_7 : x_fetch q_k106 7 = x_ldi 8 1 := rfl
theorem t106_7 (C : xF) (s n : Nat) (z : xS) : x_to q_k106 C s (n + 1) 7 z = x_nx q_k106 C s n ((x_ldi 8 1) C z) := x_to_at f106_7 C s n z
theorem f106_8 : x_fetch q_k106 8 = x_st (x_push 10 (.int (52))) := rfl
theorem t106_8 (C : xF) (s n : Nat) (z : xS) : x_to q_k106 C s (n + 1) 8 z = x_nx q_k106 C s n ((x_st (x_push 10 (.int (52)))) C z) := x_to_at f106_8 C s n z
theorem f106_10 : x_fetch q_k106 10 = x_st (x_icge 26 13) := rfl
theorem t106_10 (C : xF) (s n : Nat) (z : xS) : x_to q_k106 C s (n + 1) 10 z = x_nx q_k106 C s n ((x_st (x_icge 26 13)) C z) := x_to_at f106_10 C s n z
theorem f106_13 : x_fetch q_k106 13 = x_lda 14 0 := rfl
theorem t106_13 (C : xF) (s n : Nat) (z : xS) : x_to q_k106 C s (n + 1) 13 z = x_nx q_k106 C s n ((x_lda 14 0) C z) := x_to_at f106_13 C s n z
theorem f106_14 : x_fetch q_k106 14 = x_gf 17 8 19 := rfl
theorem t106_14 (C : xF) (s n : Nat) (z : xS) : x_to q_k106 C s (n + 1) 14 z = x_nx q_k106 C s n ((x_gf 17 8 19) C z) := x_to_at f106_14 C s n z
theorem f106_17 : x_fetch q_k106 17 = x_ldi 18 1 := rfl
theorem t106_17 (C : xF) (s n : Nat) (z : xS) : x_to q_k106 C s (n + 1) 17 z = x_nx q_k106 C s n ((x_ldi 18 1) C z) := x_to_at f106_17 C s n z
theorem f106_18 : x_fetch q_k106 18 = x_st (x_push 19 (.int (-1))) := rfl
theorem t106_18 (C : xF) (s n : Nat) (z : xS) : x_to q_k106 C s (n + 1) 18 z = x_nx q_k106 C s n ((x_st (x_push 19 (.int (-1)))) C z) := x_to_at f106_18 C s n z
theorem f106_19 : x_fetch q_k106 19 = x_ast 20 0 (fun x => x) := rfl
theorem t106_19 (C : xF) (s n : Nat) (z : xS) : x_to q_k106 C s (n + 1) 19 z = x_nx q_k106 C s n ((x_ast 20 0 (fun x => x)) C z) := x_to_at f106_19 C s n z
theorem f106_20 : x_fetch q_k106 20 = x_iinc 23 1 (1) := rfl
theorem t106_20 (C : xF) (s n : Nat) (z : xS) : x_to q_k106 C s (n + 1) 20 z = x_nx q_k106 C s n ((x_iinc 23 1 (1)) C z) := x_to_at f106_20 C s n z
theorem f106_23 : x_fetch q_k106 23 = x_st (x_goto 7) := rfl
theorem t106_23 (C : xF) (s n : Nat) (z : xS) : x_to q_k106 C s (n + 1) 23 z = x_nx q_k106 C s n ((x_st (x_goto 7)) C z) := x_to_at f106_23 C s n z
theorem f106_26 : x_fetch q_k106 26 = x_st (x_push 27 (.int (0))) := rfl
theorem t106_26 (C : xF) (s n : Nat) (z : xS) : x_to q_k106 C s (n + 1) 26 z = x_nx q_k106 C s n ((x_st (x_push 27 (.int (0)))) C z) := x_to_at f106_26 C s n z
theorem f106_27 : x_fetch q_k106 27 = x_sti 28 1 := rfl
theorem t106_27 (C : xF) (s n : Nat) (z : xS) : x_to q_k106 C s (n + 1) 27 z = x_nx q_k106 C s n ((x_sti 28 1) C z) := x_to_at f106_27 C s n z
theorem f106_28 : x_fetch q_k106 28 = x_ldi 29 1 := rfl
theorem t106_28 (C : xF) (s n : Nat) (z : xS) : x_to q_k106 C s (n + 1) 28 z = x_nx q_k106 C s n ((x_ldi 29 1) C z) := x_to_at f106_28 C s n z
theorem f106_29 : x_fetch q_k106 29 = x_lda 30 0 := rfl
theorem t106_29 (C : xF) (s n : Nat) (z : xS) : x_to q_k106 C s (n + 1) 29 z = x_nx q_k106 C s n ((x_lda 30 0) C z) := x_to_at f106_29 C s n z
theorem f106_30 : x_fetch q_k106 30 = x_gf 33 8 21 := rfl
theorem t106_30 (C : xF) (s n : Nat) (z : xS) : x_to q_k106 C s (n + 1) 30 z = x_nx q_k106 C s n ((x_gf 33 8 21) C z) := x_to_at f106_30 C s n z
theorem f106_33 : x_fetch q_k106 33 = x_st (x_icge 96 36) := rfl
theorem t106_33 (C : xF) (s n : Nat) (z : xS) : x_to q_k106 C s (n + 1) 33 z = x_nx q_k106 C s n ((x_st (x_icge 96 36)) C z) := x_to_at f106_33 C s n z
theorem f106_36 : x_fetch q_k106 36 = x_lda 37 0 := rfl
theorem t106_36 (C : xF) (s n : Nat) (z : xS) : x_to q_k106 C s (n + 1) 36 z = x_nx q_k106 C s n ((x_lda 37 0) C z) := x_to_at f106_36 C s n z
theorem f106_37 : x_fetch q_k106 37 = x_gf 40 8 17 := rfl
theorem t106_37 (C : xF) (s n : Nat) (z : xS) : x_to q_k106 C s (n + 1) 37 z = x_nx q_k106 C s n ((x_gf 40 8 17) C z) := x_to_at f106_37 C s n z
theorem f106_40 : x_fetch q_k106 40 = x_ldi 41 1 := rfl
theorem t106_40 (C : xF) (s n : Nat) (z : xS) : x_to q_k106 C s (n + 1) 40 z = x_nx q_k106 C s n ((x_ldi 41 1) C z) := x_to_at f106_40 C s n z
theorem f106_41 : x_fetch q_k106 41 = x_ald 42 0 := rfl
theorem t106_41 (C : xF) (s n : Nat) (z : xS) : x_to q_k106 C s (n + 1) 41 z = x_nx q_k106 C s n ((x_ald 42 0) C z) := x_to_at f106_41 C s n z
theorem f106_42 : x_fetch q_k106 42 = x_sti 43 2 := rfl
theorem t106_42 (C : xF) (s n : Nat) (z : xS) : x_to q_k106 C s (n + 1) 42 z = x_nx q_k106 C s n ((x_sti 43 2) C z) := x_to_at f106_42 C s n z
theorem f106_43 : x_fetch q_k106 43 = x_ldi 44 2 := rfl
theorem t106_43 (C : xF) (s n : Nat) (z : xS) : x_to q_k106 C s (n + 1) 43 z = x_nx q_k106 C s n ((x_ldi 44 2) C z) := x_to_at f106_43 C s n z
theorem f106_44 : x_fetch q_k106 44 = x_st (x_push 46 (.int (99))) := rfl
theorem t106_44 (C : xF) (s n : Nat) (z : xS) : x_to q_k106 C s (n + 1) 44 z = x_nx q_k106 C s n ((x_st (x_push 46 (.int (99)))) C z) := x_to_at f106_44 C s n z
theorem f106_46 : x_fetch q_k106 46 = x_st (x_icge 90 49) := rfl
theorem t106_46 (C : xF) (s n : Nat) (z : xS) : x_to q_k106 C s (n + 1) 46 z = x_nx q_k106 C s n ((x_st (x_icge 90 49)) C z) := x_to_at f106_46 C s n z
theorem f106_49 : x_fetch q_k106 49 = x_lda 50 0 := rfl
theorem t106_49 (C : xF) (s n : Nat) (z : xS) : x_to q_k106 C s (n + 1) 49 z = x_nx q_k106 C s n ((x_lda 50 0) C z) := x_to_at f106_49 C s n z
theorem f106_50 : x_fetch q_k106 50 = x_gf 53 8 19 := rfl
theorem t106_50 (C : xF) (s n : Nat) (z : xS) : x_to q_k106 C s (n + 1) 50 z = x_nx q_k106 C s n ((x_gf 53 8 19) C z) := x_to_at f106_50 C s n z
theorem f106_53 : x_fetch q_k106 53 = x_ldi 54 2 := rfl
theorem t106_53 (C : xF) (s n : Nat) (z : xS) : x_to q_k106 C s (n + 1) 53 z = x_nx q_k106 C s n ((x_ldi 54 2) C z) := x_to_at f106_53 C s n z
theorem f106_54 : x_fetch q_k106 54 = x_ald 55 0 := rfl
theorem t106_54 (C : xF) (s n : Nat) (z : xS) : x_to q_k106 C s (n + 1) 54 z = x_nx q_k106 C s n ((x_ald 55 0) C z) := x_to_at f106_54 C s n z
theorem f106_55 : x_fetch q_k106 55 = x_st (x_ifge 78 58) := rfl
theorem t106_55 (C : xF) (s n : Nat) (z : xS) : x_to q_k106 C s (n + 1) 55 z = x_nx q_k106 C s n ((x_st (x_ifge 78 58)) C z) := x_to_at f106_55 C s n z
theorem f106_58 : x_fetch q_k106 58 = x_lda 59 0 := rfl
theorem t106_58 (C : xF) (s n : Nat) (z : xS) : x_to q_k106 C s (n + 1) 58 z = x_nx q_k106 C s n ((x_lda 59 0) C z) := x_to_at f106_58 C s n z
theorem f106_59 : x_fetch q_k106 59 = x_gf 62 8 19 := rfl
theorem t106_59 (C : xF) (s n : Nat) (z : xS) : x_to q_k106 C s (n + 1) 59 z = x_nx q_k106 C s n ((x_gf 62 8 19) C z) := x_to_at f106_59 C s n z
theorem f106_62 : x_fetch q_k106 62 = x_ldi 63 2 := rfl
theorem t106_62 (C : xF) (s n : Nat) (z : xS) : x_to q_k106 C s (n + 1) 62 z = x_nx q_k106 C s n ((x_ldi 63 2) C z) := x_to_at f106_62 C s n z
theorem f106_63 : x_fetch q_k106 63 = x_lda 64 0 := rfl
theorem t106_63 (C : xF) (s n : Nat) (z : xS) : x_to q_k106 C s (n + 1) 63 z = x_nx q_k106 C s n ((x_lda 64 0) C z) := x_to_at f106_63 C s n z
theorem f106_64 : x_fetch q_k106 64 = x_gf 67 8 23 := rfl
theorem t106_64 (C : xF) (s n : Nat) (z : xS) : x_to q_k106 C s (n + 1) 64 z = x_nx q_k106 C s n ((x_gf 67 8 23) C z) := x_to_at f106_64 C s n z
theorem f106_67 : x_fetch q_k106 67 = x_ast 68 0 (fun x => x) := rfl
theorem t106_67 (C : xF) (s n : Nat) (z : xS) : x_to q_k106 C s (n + 1) 67 z = x_nx q_k106 C s n ((x_ast 68 0 (fun x => x)) C z) := x_to_at f106_67 C s n z
theorem f106_68 : x_fetch q_k106 68 = x_lda 69 0 := rfl
theorem t106_68 (C : xF) (s n : Nat) (z : xS) : x_to q_k106 C s (n + 1) 68 z = x_nx q_k106 C s n ((x_lda 69 0) C z) := x_to_at f106_68 C s n z
theorem f106_69 : x_fetch q_k106 69 = x_st (x_dup 70) := rfl
theorem t106_69 (C : xF) (s n : Nat) (z : xS) : x_to q_k106 C s (n + 1) 69 z = x_nx q_k106 C s n ((x_st (x_dup 70)) C z) := x_to_at f106_69 C s n z
theorem f106_70 : x_fetch q_k106 70 = x_gf 73 8 23 := rfl
theorem t106_70 (C : xF) (s n : Nat) (z : xS) : x_to q_k106 C s (n + 1) 70 z = x_nx q_k106 C s n ((x_gf 73 8 23) C z) := x_to_at f106_70 C s n z
theorem f106_73 : x_fetch q_k106 73 = x_st (x_push 74 (.int (1))) := rfl
theorem t106_73 (C : xF) (s n : Nat) (z : xS) : x_to q_k106 C s (n + 1) 73 z = x_nx q_k106 C s n ((x_st (x_push 74 (.int (1)))) C z) := x_to_at f106_73 C s n z
theorem f106_74 : x_fetch q_k106 74 = x_st (x_bin 75 (fun a b => a + b)) := rfl
theorem t106_74 (C : xF) (s n : Nat) (z : xS) : x_to q_k106 C s (n + 1) 74 z = x_nx q_k106 C s n ((x_st (x_bin 75 (fun a b => a + b))) C z) := x_to_at f106_74 C s n z
theorem f106_75 : x_fetch q_k106 75 = x_pf 78 8 23 (.int) := rfl
theorem t106_75 (C : xF) (s n : Nat) (z : xS) : x_to q_k106 C s (n + 1) 75 z = x_nx q_k106 C s n ((x_pf 78 8 23 (.int)) C z) := x_to_at f106_75 C s n z
theorem f106_78 : x_fetch q_k106 78 = x_lda 79 0 := rfl
theorem t106_78 (C : xF) (s n : Nat) (z : xS) : x_to q_k106 C s (n + 1) 78 z = x_nx q_k106 C s n ((x_lda 79 0) C z) := x_to_at f106_78 C s n z
theorem f106_79 : x_fetch q_k106 79 = x_gf 82 8 17 := rfl
theorem t106_79 (C : xF) (s n : Nat) (z : xS) : x_to q_k106 C s (n + 1) 79 z = x_nx q_k106 C s n ((x_gf 82 8 17) C z) := x_to_at f106_79 C s n z
theorem f106_82 : x_fetch q_k106 82 = x_ldi 83 1 := rfl
theorem t106_82 (C : xF) (s n : Nat) (z : xS) : x_to q_k106 C s (n + 1) 82 z = x_nx q_k106 C s n ((x_ldi 83 1) C z) := x_to_at f106_82 C s n z
theorem f106_83 : x_fetch q_k106 83 = x_lda 84 0 := rfl
theorem t106_83 (C : xF) (s n : Nat) (z : xS) : x_to q_k106 C s (n + 1) 83 z = x_nx q_k106 C s n ((x_lda 84 0) C z) := x_to_at f106_83 C s n z
theorem f106_84 : x_fetch q_k106 84 = x_gf 87 8 19 := rfl
theorem t106_84 (C : xF) (s n : Nat) (z : xS) : x_to q_k106 C s (n + 1) 84 z = x_nx q_k106 C s n ((x_gf 87 8 19) C z) := x_to_at f106_84 C s n z
theorem f106_87 : x_fetch q_k106 87 = x_ldi 88 2 := rfl
theorem t106_87 (C : xF) (s n : Nat) (z : xS) : x_to q_k106 C s (n + 1) 87 z = x_nx q_k106 C s n ((x_ldi 88 2) C z) := x_to_at f106_87 C s n z
theorem f106_88 : x_fetch q_k106 88 = x_ald 89 0 := rfl
theorem t106_88 (C : xF) (s n : Nat) (z : xS) : x_to q_k106 C s (n + 1) 88 z = x_nx q_k106 C s n ((x_ald 89 0) C z) := x_to_at f106_88 C s n z
theorem f106_89 : x_fetch q_k106 89 = x_ast 90 0 (fun x => x) := rfl
theorem t106_89 (C : xF) (s n : Nat) (z : xS) : x_to q_k106 C s (n + 1) 89 z = x_nx q_k106 C s n ((x_ast 90 0 (fun x => x)) C z) := x_to_at f106_89 C s n z
theorem f106_90 : x_fetch q_k106 90 = x_iinc 93 1 (1) := rfl
theorem t106_90 (C : xF) (s n : Nat) (z : xS) : x_to q_k106 C s (n + 1) 90 z = x_nx q_k106 C s n ((x_iinc 93 1 (1)) C z) := x_to_at f106_90 C s n z
theorem f106_93 : x_fetch q_k106 93 = x_st (x_goto 28) := rfl
theorem t106_93 (C : xF) (s n : Nat) (z : xS) : x_to q_k106 C s (n + 1) 93 z = x_nx q_k106 C s n ((x_st (x_goto 28)) C z) := x_to_at f106_93 C s n z
theorem f106_96 : x_fetch q_k106 96 = x_rv := rfl
theorem t106_96 (C : xF) (s n : Nat) (z : xS) : x_to q_k106 C s (n + 1) 96 z = x_nx q_k106 C s n ((x_rv) C z) := x_to_at f106_96 C s n z
theorem fvs_pre : ∀ (t q : List Int), ∃ r, fvs q t = q ++ r
  | [], q => ⟨[], by simp [fvs]⟩
  | s :: t, q => by
    unfold fvs
    split
    · obtain ⟨r, e⟩ := fvs_pre t (q ++ [s])
      exact ⟨s :: r, by rw [e]; simp⟩
    · exact fvs_pre t q
theorem fvs_idx {t q : List Int} {v : Int} (h : v ∈ q) : (fvs q t).idxOf v = q.idxOf v := by
  obtain ⟨r, e⟩ := fvs_pre t q
  rw [e, List.idxOf_append, if_pos h]
section EN
variable {w : Nat → xC} {N : Nat} {m : Nat → Int} {R Sa Mi Mp : List Int}
theorem m116 (d : Nat) (hN : 53 ≤ N) (hm : w 27 = .inr (8, mF m)) (hR : w 38 = cI 0 R) (s1 : R.length = 600) (hA : w 39 = cI 0 Sa) (s2 : Sa.length = 14) (hM : w 41 = cI 1 Mi) (s3 : Mi.length = 14) (hr : ∀ i, 0 ≤ i → i < m 7 → 0 ≤ gZ R i ∧ gZ R i < 100000) (hs : ∀ i, 0 ≤ i → i ≤ m 8 → 0 ≤ gZ Sa i ∧ gZ Sa i ≤ m 7) (hmi : ∀ i, 0 ≤ i → i ≤ m 8 → gZ Mi i = 0 ∨ gZ Mi i = 1) (k0 : 0 ≤ m 8) (k1 : m 8 < 13) (n0 : gZ Sa (m 8) ≤ m 7) (n1 : m 7 - gZ Sa (m 8) ≤ 100) (n2 : m 7 ≤ 500) (h10 : m 10 = 0) :
    Xc (d + 2) 116 [.ref 30] (hp w N) (none, hp (uH (uH w 27 (.inr (8, mF (if twF (sameL R (sZ Sa (m 8 + 1) (m 7)) Mi (m 8) (m 7 - gZ Sa (m 8))) (m 8).toNat 0 = true then st_ (st_ m 7 (gZ Sa (m 8))) 8 (m 8) else st_ m 8 (m 8 + 1))))) 39 (cI 0 (sZ Sa (m 8 + 1) (m 7)))) N) := by
  have e1 : gZ (sZ Sa (m 8 + 1) (m 7)) (m 8 + 1) = m 7 := by rw [gZ_sZ (by omega) (by omega) (by omega), if_pos rfl]
  have e2 : gZ (sZ Sa (m 8 + 1) (m 7)) (m 8) = gZ Sa (m 8) := by rw [gZ_sZ (by omega) (by omega) (by omega), if_neg (by omega)]
  have hs2 := hs (m 8) k0 (by omega)
  have mm := m104 d (w := uH (uH w 27 (.inr (8, mF (st_ m 8 (m 8 + 1))))) 39 (cI 0 (sZ Sa (m 8 + 1) (m 7)))) (N := N) (m := st_ m 8 (m 8 + 1)) (R := R) (Sa := sZ Sa (m 8 + 1) (m 7)) (Mi := Mi) hN (by rw [uH_ne (by omega), uH_at]) (by rw [uH_ne (by omega), uH_ne (by omega)]; exact hR) s1 (by rw [uH_at]) (by rw [sZ_len]; exact s2) (by rw [uH_ne (by omega), uH_ne (by omega)]; exact hM) s3 hr n2 (fun i i0 i1 => by
    rw [gZ_sZ (by omega) (by omega) i0, if_neg (by omega)]
    exact hs i i0 i1) hmi (m 8) k0 k1 (Int.le_refl _) (by rw [e1, e2]; omega) (by rw [e1, e2]; omega) (by rw [e1]; omega)
  rw [e1, e2] at mm
  refine Xc.of rfl (by simp [lg_sl, Value.category]) ?_ (hp_le (Nat.le_refl _) (fun j _ => by (simp only [uH]; repeat' split) <;> simp_all [x_c1, sZ_len, cpl_len, mF_len]))
  have hc : c1 (lv_args 0 [.ref 30]) := by simp [c1, lv_args, Value.category]
  have l0 : x_lk (lv_args 0 [.ref 30]) 0 = some (.ref 30) := rfl
  generalize lv_args 0 [.ref 30] = lv at hc l0
  refine Gx.fin 80 mm (fun C mm => ?_)
  have b1 : m 8 + 1 - 1 = m 8 := by omega
  cases htw : twF (sameL R (sZ Sa (m 8 + 1) (m 7)) Mi (m 8) (m 7 - gZ Sa (m 8))) (m 8).toNat 0 with
  | true =>
    rw [htw] at mm
    simp (disch := first | (refine c1_id ?_; assumption) | (refine c1_st rfl ?_; repeat (first | assumption | refine c1_st rfl ?_)) | omega) [nx_l, nx_r, nx_n, x_st, x_push, x_bin, x_div, x_un, x_dup, x_pop, x_dup2, x_goto, x_ifeq, x_ifne, x_iflt, x_ifge, x_ifgt, x_ifle, x_iceq, x_icne, x_iclt, x_icge, x_icgt, x_icle, x_ifnull, x_ifnonnull, x_ldi, x_lda, x_sti, x_sta, x_iinc, x_gf, x_pf, x_ald, x_ast, x_aln, x_len, x_cl_, x_cv, x_cs, x_rc, x_r0, x_isT, x_oi, x_rv, x_ri, x_ra, Value.category, t116_0, t116_1, t116_2, t116_5, t116_6, t116_7, t116_10, t116_11, t116_14, t116_15, t116_18, t116_19, t116_22, t116_23, t116_24, t116_27, t116_30, t116_31, t116_32, t116_35, t116_36, t116_37, t116_40, t116_43, t116_44, t116_45, t116_48, t116_49, t116_50, t116_53, t116_54, t116_55, t116_58, t116_59, t116_62, t116_63, t116_66, lk_s, hp_get, hp_set, uH_at, uH_ne, uH_upd, uH_swap, iZ_add, iZ_sub, iZ_mul, iZ_neg, iZ_lt, iZ_le, iZ_eq, iZ_div, iZ_of, ix_Z, gZ_map, gZ_mapI, gZ_map', le_0, le_s, sZ_map, sZ_len, bZ_0, bZ_inj, bZ_t, bZ_f, nr_i, nr_0, nr_1, nr_b, ft_i, ft_b, ft_0, ft_1, zl_0, zl_1, mF_len, mg_0, mg_1, mg_2, mg_3, mg_4, mg_5, mg_6, mg_7, mg_8, mg_9, mg_10, mg_11, mg_12, mg_13, mg_14, mg_15, mg_16, mg_17, mg_18, mg_19, mg_20, mg_21, mg_22, mg_23, mg_24, mg_25, mg_26, mg_27, mg_28, mg_29, mg_30, mg_31, mg_32, mg_33, mg_34, mg_35, mg_36, mg_37, mg_38, ms_0, ms_1, ms_2, ms_13, ms_14, ms_15, ms_16, ms_21, ms_22, ms_23, ms_24, ms_28, ms_36, ms_37, ms_38, st_at, st_ne, st_st, st_swap, l0, hm, hA, h10, b1, e2, mm, -List.filter_filter, -List.getElem?_map, -List.getD_eq_getElem?_getD]
  | false =>
    rw [htw] at mm
    simp (disch := first | (refine c1_id ?_; assumption) | (refine c1_st rfl ?_; repeat (first | assumption | refine c1_st rfl ?_)) | omega) [nx_l, nx_r, nx_n, x_st, x_push, x_bin, x_div, x_un, x_dup, x_pop, x_dup2, x_goto, x_ifeq, x_ifne, x_iflt, x_ifge, x_ifgt, x_ifle, x_iceq, x_icne, x_iclt, x_icge, x_icgt, x_icle, x_ifnull, x_ifnonnull, x_ldi, x_lda, x_sti, x_sta, x_iinc, x_gf, x_pf, x_ald, x_ast, x_aln, x_len, x_cl_, x_cv, x_cs, x_rc, x_r0, x_isT, x_oi, x_rv, x_ri, x_ra, Value.category, t116_0, t116_1, t116_2, t116_5, t116_6, t116_7, t116_10, t116_11, t116_14, t116_15, t116_18, t116_19, t116_22, t116_23, t116_24, t116_27, t116_30, t116_31, t116_32, t116_35, t116_36, t116_37, t116_40, t116_43, t116_44, t116_45, t116_48, t116_49, t116_50, t116_53, t116_54, t116_55, t116_58, t116_59, t116_62, t116_63, t116_66, lk_s, hp_get, hp_set, uH_at, uH_ne, uH_upd, uH_swap, iZ_add, iZ_sub, iZ_mul, iZ_neg, iZ_lt, iZ_le, iZ_eq, iZ_div, iZ_of, ix_Z, gZ_map, gZ_mapI, gZ_map', le_0, le_s, sZ_map, sZ_len, bZ_0, bZ_inj, bZ_t, bZ_f, nr_i, nr_0, nr_1, nr_b, ft_i, ft_b, ft_0, ft_1, zl_0, zl_1, mF_len, mg_0, mg_1, mg_2, mg_3, mg_4, mg_5, mg_6, mg_7, mg_8, mg_9, mg_10, mg_11, mg_12, mg_13, mg_14, mg_15, mg_16, mg_17, mg_18, mg_19, mg_20, mg_21, mg_22, mg_23, mg_24, mg_25, mg_26, mg_27, mg_28, mg_29, mg_30, mg_31, mg_32, mg_33, mg_34, mg_35, mg_36, mg_37, mg_38, ms_0, ms_1, ms_2, ms_13, ms_14, ms_15, ms_16, ms_21, ms_22, ms_23, ms_24, ms_28, ms_36, ms_37, ms_38, st_at, st_ne, st_st, st_swap, l0, hm, hA, h10, b1, mm, -List.filter_filter, -List.getElem?_map, -List.getD_eq_getElem?_getD]
theorem m116g (d : Nat) (hN : 53 ≤ N) (hm : w 27 = .inr (8, mF m)) (hA : w 39 = cI 0 Sa) (s2 : Sa.length = 14) (k0 : 0 ≤ m 8) (k1 : m 8 < 13) (h10 : m 10 = 1) :
    Xc (d + 2) 116 [.ref 30] (hp w N) (none, hp (uH (uH w 27 (.inr (8, mF (st_ m 8 (m 8 + 1))))) 39 (cI 0 (sZ Sa (m 8 + 1) (m 7)))) N) := by
  refine Xc.of rfl (by simp [lg_sl, Value.category]) ?_ (hp_le (Nat.le_refl _) (fun j _ => by (simp only [uH]; repeat' split) <;> simp_all [x_c1, sZ_len, cpl_len, mF_len]))
  have hc : c1 (lv_args 0 [.ref 30]) := by simp [c1, lv_args, Value.category]
  have l0 : x_lk (lv_args 0 [.ref 30]) 0 = some (.ref 30) := rfl
  generalize lv_args 0 [.ref 30] = lv at hc l0
  refine Gx.fin 80 Cs.tt (fun C _ => ?_)
  simp (disch := first | (refine c1_id ?_; assumption) | (refine c1_st rfl ?_; repeat (first | assumption | refine c1_st rfl ?_)) | omega) [nx_l, nx_r, nx_n, x_st, x_push, x_bin, x_div, x_un, x_dup, x_pop, x_dup2, x_goto, x_ifeq, x_ifne, x_iflt, x_ifge, x_ifgt, x_ifle, x_iceq, x_icne, x_iclt, x_icge, x_icgt, x_icle, x_ifnull, x_ifnonnull, x_ldi, x_lda, x_sti, x_sta, x_iinc, x_gf, x_pf, x_ald, x_ast, x_aln, x_len, x_cl_, x_cv, x_cs, x_rc, x_r0, x_isT, x_oi, x_rv, x_ri, x_ra, Value.category, t116_0, t116_1, t116_2, t116_5, t116_6, t116_7, t116_10, t116_11, t116_14, t116_15, t116_18, t116_19, t116_22, t116_23, t116_24, t116_27, t116_30, t116_31, t116_32, t116_35, t116_36, t116_37, t116_40, t116_43, t116_44, t116_45, t116_48, t116_49, t116_50, t116_53, t116_54, t116_55, t116_58, t116_59, t116_62, t116_63, t116_66, lk_s, hp_get, hp_set, uH_at, uH_ne, uH_upd, uH_swap, iZ_add, iZ_sub, iZ_mul, iZ_neg, iZ_lt, iZ_le, iZ_eq, iZ_div, iZ_of, ix_Z, gZ_map, gZ_mapI, gZ_map', le_0, le_s, sZ_map, sZ_len, bZ_0, bZ_inj, bZ_t, bZ_f, nr_i, nr_0, nr_1, nr_b, ft_i, ft_b, ft_0, ft_1, zl_0, zl_1, mF_len, mg_0, mg_1, mg_2, mg_3, mg_4, mg_5, mg_6, mg_7, mg_8, mg_9, mg_10, mg_11, mg_12, mg_13, mg_14, mg_15, mg_16, mg_17, mg_18, mg_19, mg_20, mg_21, mg_22, mg_23, mg_24, mg_25, mg_26, mg_27, mg_28, mg_29, mg_30, mg_31, mg_32, mg_33, mg_34, mg_35, mg_36, mg_37, mg_38, ms_0, ms_1, ms_2, ms_13, ms_14, ms_15, ms_16, ms_21, ms_22, ms_23, ms_24, ms_28, ms_36, ms_37, ms_38, st_at, st_ne, st_st, st_swap, l0, hm, hA, h10, -List.filter_filter, -List.getElem?_map, -List.getD_eq_getElem?_getD]
/-- the row of names: where a variable of q stands in it -/
def mpOK (q Mp : List Int) : Prop := Mp.length = 52 ∧ ∀ v, 0 ≤ v → v < 52 → gZ Mp v = if v ∈ q then (q.idxOf v : Int) else -1
theorem mpOK_new {q Mp : List Int} {v : Int} (h : mpOK q Mp) (v0 : 0 ≤ v) (v1 : v < 52) (hn : ¬ v ∈ q) : mpOK (q ++ [v]) (sZ Mp v q.length) := by
  refine ⟨by rw [sZ_len]; exact h.1, fun u u0 u1 => ?_⟩
  have hl := h.1
  rw [gZ_sZ v0 (by omega) u0]
  by_cases e : v = u
  · subst e
    rw [if_pos rfl, if_pos (List.mem_append_right _ List.mem_cons_self), List.idxOf_append, if_neg hn]
    simp
  · rw [if_neg e, h.2 u u0 u1]
    by_cases hu : u ∈ q
    · rw [if_pos hu, if_pos (List.mem_append_left _ hu), List.idxOf_append, if_pos hu]
    · rw [if_neg hu, if_neg]
      intro hm
      rcases List.mem_append.mp hm with hm | hm
      · exact hu hm
      · rw [List.mem_singleton] at hm
        exact e hm.symm
def rnH (w : Nat → xC) (N : Nat) (m : Nat → Int) (R Mp : List Int) (nm : Int) : xH := hp (uH (uH (uH w 27 (.inr (8, mF (st_ m 9 nm)))) 38 (cI 0 R)) 40 (cI 0 Mp)) N
theorem l106_28 (d : Nat) (hN : 53 ≤ N) (r0 : 0 ≤ m 7) (r1 : m 7 ≤ 500) : ∀ (ts : List Int) (k : Int) (q R Mp : List Int) (lv : xL), R.length = 600 → mpOK q Mp → q.length + ts.length ≤ 600 → k + ts.length = m 7 → 0 ≤ k → (∀ j : Nat, j < ts.length → gZ R (k + j) = ts.getD j 0) → (∀ s ∈ ts, 0 ≤ s ∧ s < 100000 ∧ (s < 99 → s < 52)) → c1 lv → x_lk lv 0 = some (.ref 30) → x_lk lv 1 = some (.int (iZ k)) →
    ∃ Mp', mpOK (fvs q ts) Mp' ∧ Gx q_k106 d 28 (lv, [], rnH w N m R Mp q.length) (none, rnH w N m (wrL R k (ts.map (fun s => if s < 99 then ((fvs q ts).idxOf s : Int) else s))) Mp' (fvs q ts).length) := by
  intro ts
  induction ts with
  | nil =>
    intro k q R Mp lv s1 hq hl hk k0 hts hval hc l0 l1
    refine ⟨Mp, hq, Gx.fin 20 Cs.tt (fun C _ => ?_)⟩
    have b1 : m 7 ≤ k := by simp at hk; omega
    simp (disch := first | (refine c1_id ?_; assumption) | (refine c1_st rfl ?_; repeat (first | assumption | refine c1_st rfl ?_)) | omega) [nx_l, nx_r, nx_n, x_st, x_push, x_bin, x_div, x_un, x_dup, x_pop, x_dup2, x_goto, x_ifeq, x_ifne, x_iflt, x_ifge, x_ifgt, x_ifle, x_iceq, x_icne, x_iclt, x_icge, x_icgt, x_icle, x_ifnull, x_ifnonnull, x_ldi, x_lda, x_sti, x_sta, x_iinc, x_gf, x_pf, x_ald, x_ast, x_aln, x_len, x_cl_, x_cv, x_cs, x_rc, x_r0, x_isT, x_oi, x_rv, x_ri, x_ra, Value.category, t106_0, t106_1, t106_2, t106_5, t106_6, t106_7, t106_8, t106_10, t106_13, t106_14, t106_17, t106_18, t106_19, t106_20, t106_23, t106_26, t106_27, t106_28, t106_29, t106_30, t106_33, t106_36, t106_37, t106_40, t106_41, t106_42, t106_43, t106_44, t106_46, t106_49, t106_50, t106_53, t106_54, t106_55, t106_58, t106_59, t106_62, t106_63, t106_64, t106_67, t106_68, t106_69, t106_70, t106_73, t106_74, t106_75, t106_78, t106_79, t106_82, t106_83, t106_84, t106_87, t106_88, t106_89, t106_90, t106_93, t106_96, lk_s, hp_get, hp_set, uH_at, uH_ne, uH_upd, uH_swap, iZ_add, iZ_sub, iZ_mul, iZ_neg, iZ_lt, iZ_le, iZ_eq, iZ_div, iZ_of, ix_Z, gZ_map, gZ_mapI, gZ_map', le_0, le_s, sZ_map, sZ_len, bZ_0, bZ_inj, bZ_t, bZ_f, nr_i, nr_0, nr_1, nr_b, ft_i, ft_b, ft_0, ft_1, zl_0, zl_1, zl_52, zl_99, mF_len, mg_0, mg_1, mg_2, mg_3, mg_4, mg_5, mg_6, mg_7, mg_8, mg_9, mg_10, mg_11, mg_12, mg_13, mg_14, mg_15, mg_16, mg_17, mg_18, mg_19, mg_20, mg_21, mg_22, mg_23, mg_24, mg_25, mg_26, mg_27, mg_28, mg_29, mg_30, mg_31, mg_32, mg_33, mg_34, mg_35, mg_36, mg_37, mg_38, ms_0, ms_1, ms_2, ms_13, ms_14, ms_15, ms_16, ms_21, ms_22, ms_23, ms_24, ms_28, ms_36, ms_37, ms_38, st_at, st_ne, st_st, st_swap, rnH, l0, l1, b1, wrL, fvs, -List.filter_filter, -List.getElem?_map, -List.getD_eq_getElem?_getD]
  | cons s ts ih =>
    intro k q R Mp lv s1 hq hl hk k0 hts hval hc l0 l1
    have hs := hval s List.mem_cons_self
    have hk' : k + (ts.length : Int) + 1 = m 7 := by simp only [List.length_cons] at hk; omega
    have hl' : q.length + ts.length + 1 ≤ 600 := by simp only [List.length_cons] at hl; omega
    have e0 : gZ R k = s := by
      have := hts 0 (by simp)
      rw [show k + ((0 : Nat) : Int) = k by omega] at this
      exact this
    have b1 : ¬ m 7 ≤ k := by omega
    have rest : ∀ v, ∀ j : Nat, j < ts.length → gZ (sZ R k v) (k + 1 + j) = ts.getD j 0 := fun v j hj => by
      rw [gZ_sZ k0 (by omega) (by omega), if_neg (by omega), show k + 1 + (j : Int) = k + ((j + 1 : Nat) : Int) by omega, hts (j + 1) (by simpa using hj)]
      rfl
    have hval' : ∀ s ∈ ts, 0 ≤ s ∧ s < 100000 ∧ (s < 99 → s < 52) := fun z hz => hval z (List.mem_cons_of_mem _ hz)
    have hml := hq.1
    by_cases h9 : s < 99
    · have s52 := hs.2.2 h9
      have hg := hq.2 s hs.1 s52
      have b2 : ¬ 99 ≤ s := by omega
      by_cases hm9 : s ∈ q
      · -- known
        rw [if_pos hm9] at hg
        have ef : fvs q (s :: ts) = fvs q ts := by
          show (if s < 99 ∧ ¬ s ∈ q then _ else _) = _
          rw [if_neg (fun z => z.2 hm9)]
        have C1 := c1_st (i := 2) (v := .int (iZ s)) rfl hc
        have C2 := c1_st (i := 1) (v := .int (iZ (k + 1))) rfl C1
        obtain ⟨Mp', g1, g2⟩ := ih (k + 1) q (sZ R k (q.idxOf s : Int)) Mp _ (by rw [sZ_len]; exact s1) hq (by omega) (by omega) (by omega) (rest _) hval' C2 (by rw [lk_s C1, lk_s hc]; exact l0) (by rw [lk_s C1]; rfl)
        refine ⟨Mp', by rw [ef]; exact g1, ?_⟩
        rw [ef]
        have ew : wrL R k ((s :: ts).map (fun s => if s < 99 then ((fvs q ts).idxOf s : Int) else s)) = wrL (sZ R k (q.idxOf s : Int)) (k + 1) (ts.map (fun s => if s < 99 then ((fvs q ts).idxOf s : Int) else s)) := by
          show wrL (sZ R k (if s < 99 then ((fvs q ts).idxOf s : Int) else s)) (k + 1) _ = _
          rw [if_pos h9, fvs_idx hm9]
        rw [ew]
        refine Gx.run 80 Cs.tt (fun C _ => ?_) g2
        have b3 : (0 : Int) ≤ (q.idxOf s : Int) := by omega
        have b4 := List.idxOf_lt_length_of_mem hm9
        simp (disch := first | (refine c1_id ?_; assumption) | (refine c1_st rfl ?_; repeat (first | assumption | refine c1_st rfl ?_)) | omega) [nx_l, nx_r, nx_n, x_st, x_push, x_bin, x_div, x_un, x_dup, x_pop, x_dup2, x_goto, x_ifeq, x_ifne, x_iflt, x_ifge, x_ifgt, x_ifle, x_iceq, x_icne, x_iclt, x_icge, x_icgt, x_icle, x_ifnull, x_ifnonnull, x_ldi, x_lda, x_sti, x_sta, x_iinc, x_gf, x_pf, x_ald, x_ast, x_aln, x_len, x_cl_, x_cv, x_cs, x_rc, x_r0, x_isT, x_oi, x_rv, x_ri, x_ra, Value.category, t106_0, t106_1, t106_2, t106_5, t106_6, t106_7, t106_8, t106_10, t106_13, t106_14, t106_17, t106_18, t106_19, t106_20, t106_23, t106_26, t106_27, t106_28, t106_29, t106_30, t106_33, t106_36, t106_37, t106_40, t106_41, t106_42, t106_43, t106_44, t106_46, t106_49, t106_50, t106_53, t106_54, t106_55, t106_58, t106_59, t106_62, t106_63, t106_64, t106_67, t106_68, t106_69, t106_70, t106_73, t106_74, t106_75, t106_78, t106_79, t106_82, t106_83, t106_84, t106_87, t106_88, t106_89, t106_90, t106_93, t106_96, lk_s, hp_get, hp_set, uH_at, uH_ne, uH_upd, uH_swap, iZ_add, iZ_sub, iZ_mul, iZ_neg, iZ_lt, iZ_le, iZ_eq, iZ_div, iZ_of, ix_Z, gZ_map, gZ_mapI, gZ_map', le_0, le_s, sZ_map, sZ_len, bZ_0, bZ_inj, bZ_t, bZ_f, nr_i, nr_0, nr_1, nr_b, ft_i, ft_b, ft_0, ft_1, zl_0, zl_1, zl_52, zl_99, mF_len, mg_0, mg_1, mg_2, mg_3, mg_4, mg_5, mg_6, mg_7, mg_8, mg_9, mg_10, mg_11, mg_12, mg_13, mg_14, mg_15, mg_16, mg_17, mg_18, mg_19, mg_20, mg_21, mg_22, mg_23, mg_24, mg_25, mg_26, mg_27, mg_28, mg_29, mg_30, mg_31, mg_32, mg_33, mg_34, mg_35, mg_36, mg_37, mg_38, ms_0, ms_1, ms_2, ms_13, ms_14, ms_15, ms_16, ms_21, ms_22, ms_23, ms_24, ms_28, ms_36, ms_37, ms_38, st_at, st_ne, st_st, st_swap, rnH, l0, l1, b1, b2, b3, e0, hg, -List.filter_filter, -List.getElem?_map, -List.getD_eq_getElem?_getD]
      · -- new
        rw [if_neg hm9] at hg
        have ef : fvs q (s :: ts) = fvs (q ++ [s]) ts := by
          show (if s < 99 ∧ ¬ s ∈ q then _ else _) = _
          rw [if_pos ⟨h9, hm9⟩]
        have C1 := c1_st (i := 2) (v := .int (iZ s)) rfl hc
        have C2 := c1_st (i := 1) (v := .int (iZ (k + 1))) rfl C1
        obtain ⟨Mp', g1, g2⟩ := ih (k + 1) (q ++ [s]) (sZ R k (q.length : Int)) (sZ Mp s q.length) _ (by rw [sZ_len]; exact s1) (mpOK_new hq hs.1 s52 hm9) (by simp only [List.length_append, List.length_cons, List.length_nil]; omega) (by omega) (by omega) (rest _) hval' C2 (by rw [lk_s C1, lk_s hc]; exact l0) (by rw [lk_s C1]; rfl)
        refine ⟨Mp', by rw [ef]; exact g1, ?_⟩
        rw [ef]
        have ei : (fvs (q ++ [s]) ts).idxOf s = q.length := by
          rw [fvs_idx (List.mem_append_right _ List.mem_cons_self), List.idxOf_append, if_neg hm9]
          simp
        have ew : wrL R k ((s :: ts).map (fun s => if s < 99 then ((fvs (q ++ [s]) ts).idxOf s : Int) else s)) = wrL (sZ R k (if s < 99 then ((fvs (q ++ [s]) ts).idxOf s : Int) else s)) (k + 1) (ts.map (fun s => if s < 99 then ((fvs (q ++ [s]) ts).idxOf s : Int) else s)) := rfl
        have ew2 : wrL R k ((s :: ts).map (fun z => if z < 99 then ((fvs (q ++ [s]) ts).idxOf z : Int) else z)) = wrL (sZ R k (q.length : Int)) (k + 1) (ts.map (fun z => if z < 99 then ((fvs (q ++ [s]) ts).idxOf z : Int) else z)) := by
          show wrL (sZ R k (if s < 99 then ((fvs (q ++ [s]) ts).idxOf s : Int) else s)) (k + 1) _ = _
          rw [if_pos h9, ei]
        rw [ew2]
        refine Gx.run 80 Cs.tt (fun C _ => ?_) g2
        have e5 : gZ (sZ Mp s q.length) s = q.length := by rw [gZ_sZ hs.1 (by omega) hs.1, if_pos rfl]
        have e6 : (((q ++ [s]).length : Nat) : Int) = (q.length : Int) + 1 := by simp
        simp (disch := first | (refine c1_id ?_; assumption) | (refine c1_st rfl ?_; repeat (first | assumption | refine c1_st rfl ?_)) | omega) [nx_l, nx_r, nx_n, x_st, x_push, x_bin, x_div, x_un, x_dup, x_pop, x_dup2, x_goto, x_ifeq, x_ifne, x_iflt, x_ifge, x_ifgt, x_ifle, x_iceq, x_icne, x_iclt, x_icge, x_icgt, x_icle, x_ifnull, x_ifnonnull, x_ldi, x_lda, x_sti, x_sta, x_iinc, x_gf, x_pf, x_ald, x_ast, x_aln, x_len, x_cl_, x_cv, x_cs, x_rc, x_r0, x_isT, x_oi, x_rv, x_ri, x_ra, Value.category, t106_0, t106_1, t106_2, t106_5, t106_6, t106_7, t106_8, t106_10, t106_13, t106_14, t106_17, t106_18, t106_19, t106_20, t106_23, t106_26, t106_27, t106_28, t106_29, t106_30, t106_33, t106_36, t106_37, t106_40, t106_41, t106_42, t106_43, t106_44, t106_46, t106_49, t106_50, t106_53, t106_54, t106_55, t106_58, t106_59, t106_62, t106_63, t106_64, t106_67, t106_68, t106_69, t106_70, t106_73, t106_74, t106_75, t106_78, t106_79, t106_82, t106_83, t106_84, t106_87, t106_88, t106_89, t106_90, t106_93, t106_96, lk_s, hp_get, hp_set, uH_at, uH_ne, uH_upd, uH_swap, iZ_add, iZ_sub, iZ_mul, iZ_neg, iZ_lt, iZ_le, iZ_eq, iZ_div, iZ_of, ix_Z, gZ_map, gZ_mapI, gZ_map', le_0, le_s, sZ_map, sZ_len, bZ_0, bZ_inj, bZ_t, bZ_f, nr_i, nr_0, nr_1, nr_b, ft_i, ft_b, ft_0, ft_1, zl_0, zl_1, zl_52, zl_99, mF_len, mg_0, mg_1, mg_2, mg_3, mg_4, mg_5, mg_6, mg_7, mg_8, mg_9, mg_10, mg_11, mg_12, mg_13, mg_14, mg_15, mg_16, mg_17, mg_18, mg_19, mg_20, mg_21, mg_22, mg_23, mg_24, mg_25, mg_26, mg_27, mg_28, mg_29, mg_30, mg_31, mg_32, mg_33, mg_34, mg_35, mg_36, mg_37, mg_38, ms_0, ms_1, ms_2, ms_13, ms_14, ms_15, ms_16, ms_21, ms_22, ms_23, ms_24, ms_28, ms_36, ms_37, ms_38, st_at, st_ne, st_st, st_swap, rnH, l0, l1, b1, b2, e0, hg, e5, e6, -List.length_append, -List.filter_filter, -List.getElem?_map, -List.getD_eq_getElem?_getD]
    · -- no variable
      have ef : fvs q (s :: ts) = fvs q ts := by
        show (if s < 99 ∧ ¬ s ∈ q then _ else _) = _
        rw [if_neg (fun z => h9 z.1)]
      have C1 := c1_st (i := 2) (v := .int (iZ s)) rfl hc
      have C2 := c1_st (i := 1) (v := .int (iZ (k + 1))) rfl C1
      have hsame : sZ R k s = R := sZ_same e0 k0 (by omega)
      have rest' : ∀ j : Nat, j < ts.length → gZ R (k + 1 + j) = ts.getD j 0 := fun j hj => by
        have := rest s j hj
        rw [hsame] at this
        exact this
      obtain ⟨Mp', g1, g2⟩ := ih (k + 1) q R Mp _ s1 hq (by omega) (by omega) (by omega) rest' hval' C2 (by rw [lk_s C1, lk_s hc]; exact l0) (by rw [lk_s C1]; rfl)
      refine ⟨Mp', by rw [ef]; exact g1, ?_⟩
      rw [ef]
      have ew : wrL R k ((s :: ts).map (fun s => if s < 99 then ((fvs q ts).idxOf s : Int) else s)) = wrL R (k + 1) (ts.map (fun s => if s < 99 then ((fvs q ts).idxOf s : Int) else s)) := by
        show wrL (sZ R k (if s < 99 then ((fvs q ts).idxOf s : Int) else s)) (k + 1) _ = _
        rw [if_neg h9, hsame]
      rw [ew]
      refine Gx.run 80 Cs.tt (fun C _ => ?_) g2
      have b2 : 99 ≤ s := by omega
      simp (disch := first | (refine c1_id ?_; assumption) | (refine c1_st rfl ?_; repeat (first | assumption | refine c1_st rfl ?_)) | omega) [nx_l, nx_r, nx_n, x_st, x_push, x_bin, x_div, x_un, x_dup, x_pop, x_dup2, x_goto, x_ifeq, x_ifne, x_iflt, x_ifge, x_ifgt, x_ifle, x_iceq, x_icne, x_iclt, x_icge, x_icgt, x_icle, x_ifnull, x_ifnonnull, x_ldi, x_lda, x_sti, x_sta, x_iinc, x_gf, x_pf, x_ald, x_ast, x_aln, x_len, x_cl_, x_cv, x_cs, x_rc, x_r0, x_isT, x_oi, x_rv, x_ri, x_ra, Value.category, t106_0, t106_1, t106_2, t106_5, t106_6, t106_7, t106_8, t106_10, t106_13, t106_14, t106_17, t106_18, t106_19, t106_20, t106_23, t106_26, t106_27, t106_28, t106_29, t106_30, t106_33, t106_36, t106_37, t106_40, t106_41, t106_42, t106_43, t106_44, t106_46, t106_49, t106_50, t106_53, t106_54, t106_55, t106_58, t106_59, t106_62, t106_63, t106_64, t106_67, t106_68, t106_69, t106_70, t106_73, t106_74, t106_75, t106_78, t106_79, t106_82, t106_83, t106_84, t106_87, t106_88, t106_89, t106_90, t106_93, t106_96, lk_s, hp_get, hp_set, uH_at, uH_ne, uH_upd, uH_swap, iZ_add, iZ_sub, iZ_mul, iZ_neg, iZ_lt, iZ_le, iZ_eq, iZ_div, iZ_of, ix_Z, gZ_map, gZ_mapI, gZ_map', le_0, le_s, sZ_map, sZ_len, bZ_0, bZ_inj, bZ_t, bZ_f, nr_i, nr_0, nr_1, nr_b, ft_i, ft_b, ft_0, ft_1, zl_0, zl_1, zl_52, zl_99, mF_len, mg_0, mg_1, mg_2, mg_3, mg_4, mg_5, mg_6, mg_7, mg_8, mg_9, mg_10, mg_11, mg_12, mg_13, mg_14, mg_15, mg_16, mg_17, mg_18, mg_19, mg_20, mg_21, mg_22, mg_23, mg_24, mg_25, mg_26, mg_27, mg_28, mg_29, mg_30, mg_31, mg_32, mg_33, mg_34, mg_35, mg_36, mg_37, mg_38, ms_0, ms_1, ms_2, ms_13, ms_14, ms_15, ms_16, ms_21, ms_22, ms_23, ms_24, ms_28, ms_36, ms_37, ms_38, st_at, st_ne, st_st, st_swap, rnH, l0, l1, b1, b2, e0, -List.filter_filter, -List.getElem?_map, -List.getD_eq_getElem?_getD]
end EN
