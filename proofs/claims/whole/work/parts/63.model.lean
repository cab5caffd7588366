/-! the reference: clauses laid out, places looked up, rows compared, letters used -/
theorem f110_0 : x_fetch q_k110 0 = x_lda 1 0 := rfl
theorem t110_0 (C : xF) (s n : Nat) (z : xS) : x_to q_k110 C s (n + 1) 0 z = x_nx q_k110 C s n ((x_lda 1 0) C z) := x_to_at f110_0 C s n z
theorem f110_1 : x_fetch q_k110 1 = x_gf 4 8 4 := rfl
theorem t110_1 (C : xF) (s n : Nat) (z : xS) : x_to q_k110 C s (n + 1) 1 z = x_nx q_k110 C s n ((x_gf 4 8 4) C z) := x_to_at f110_1 C s n z
theorem f110_4 : x_fetch q_k110 4 = x_st (x_push 6 (.int (7))) := rfl
theorem t110_4 (C : xF) (s n : Nat) (z : xS) : x_to q_k110 C s (n + 1) 4 z = x_nx q_k110 C s n ((x_st (x_push 6 (.int (7)))) C z) := x_to_at f110_4 C s n z
theorem f110_6 : x_fetch q_k110 6 = x_ldi 7 1 := rfl
theorem t110_6 (C : xF) (s n : Nat) (z : xS) : x_to q_k110 C s (n + 1) 6 z = x_nx q_k110 C s n ((x_ldi 7 1) C z) := x_to_at f110_6 C s n z
theorem f110_7 : x_fetch q_k110 7 = x_st (x_bin 8 (fun a b => a * b)) := rfl
theorem t110_7 (C : xF) (s n : Nat) (z : xS) : x_to q_k110 C s (n + 1) 7 z = x_nx q_k110 C s n ((x_st (x_bin 8 (fun a b => a * b))) C z) := x_to_at f110_7 C s n z
theorem f110_8 : x_fetch q_k110 8 = x_lda 9 0 := rfl
theorem t110_8 (C : xF) (s n : Nat) (z : xS) : x_to q_k110 C s (n + 1) 8 z = x_nx q_k110 C s n ((x_lda 9 0) C z) := x_to_at f110_8 C s n z
theorem f110_9 : x_fetch q_k110 9 = x_gf 12 8 5 := rfl
theorem t110_9 (C : xF) (s n : Nat) (z : xS) : x_to q_k110 C s (n + 1) 9 z = x_nx q_k110 C s n ((x_gf 12 8 5) C z) := x_to_at f110_9 C s n z
theorem f110_12 : x_fetch q_k110 12 = x_ldi 13 1 := rfl
theorem t110_12 (C : xF) (s n : Nat) (z : xS) : x_to q_k110 C s (n + 1) 12 z = x_nx q_k110 C s n ((x_ldi 13 1) C z) := x_to_at f110_12 C s n z
theorem f110_13 : x_fetch q_k110 13 = x_ald 14 0 := rfl
theorem t110_13 (C : xF) (s n : Nat) (z : xS) : x_to q_k110 C s (n + 1) 13 z = x_nx q_k110 C s n ((x_ald 14 0) C z) := x_to_at f110_13 C s n z
theorem f110_14 : x_fetch q_k110 14 = x_st (x_bin 15 (fun a b => a + b)) := rfl
theorem t110_14 (C : xF) (s n : Nat) (z : xS) : x_to q_k110 C s (n + 1) 14 z = x_nx q_k110 C s n ((x_st (x_bin 15 (fun a b => a + b))) C z) := x_to_at f110_14 C s n z
theorem f110_15 : x_fetch q_k110 15 = x_ald 16 0 := rfl
theorem t110_15 (C : xF) (s n : Nat) (z : xS) : x_to q_k110 C s (n + 1) 15 z = x_nx q_k110 C s n ((x_ald 16 0) C z) := x_to_at f110_15 C s n z
theorem f110_16 : x_fetch q_k110 16 = x_sti 18 4 := rfl
theorem t110_16 (C : xF) (s n : Nat) (z : xS) : x_to q_k110 C s (n + 1) 16 z = x_nx q_k110 C s n ((x_sti 18 4) C z) := x_to_at f110_16 C s n z
theorem f110_18 : x_fetch q_k110 18 = x_st (x_push 19 (.int (0))) := rfl
theorem t110_18 (C : xF) (s n : Nat) (z : xS) : x_to q_k110 C s (n + 1) 18 z = x_nx q_k110 C s n ((x_st (x_push 19 (.int (0)))) C z) := x_to_at f110_18 C s n z
theorem f110_19 : x_fetch q_k110 19 = x_sti 21 5 := rfl
theorem t110_19 (C : xF) (s n : Nat) (z : xS) : x_to q_k110 C s (n + 1) 19 z = x_nx q_k110 C s n ((x_sti 21 5) C z) := x_to_at f110_19 C s n z
theorem f110_21 : x_fetch q_k110 21 = x_ldi 23 5 := rfl
theorem t110_21 (C : xF) (s n : Nat) (z : xS) : x_to q_k110 C s (n + 1) 21 z = x_nx q_k110 C s n ((x_ldi 23 5) C z) := x_to_at f110_21 C s n z
theorem f110_23 : x_fetch q_k110 23 = x_ldi 25 4 := rfl
theorem t110_23 (C : xF) (s n : Nat) (z : xS) : x_to q_k110 C s (n + 1) 23 z = x_nx q_k110 C s n ((x_ldi 25 4) C z) := x_to_at f110_23 C s n z
theorem f110_25 : x_fetch q_k110 25 = x_st (x_icge 73 28) := rfl
theorem t110_25 (C : xF) (s n : Nat) (z : xS) : x_to q_k110 C s (n + 1) 25 z = x_nx q_k110 C s n ((x_st (x_icge 73 28)) C z) := x_to_at f110_25 C s n z
theorem f110_28 : x_fetch q_k110 28 = x_lda 29 0 := rfl
theorem t110_28 (C : xF) (s n : Nat) (z : xS) : x_to q_k110 C s (n + 1) 28 z = x_nx q_k110 C s n ((x_lda 29 0) C z) := x_to_at f110_28 C s n z
theorem f110_29 : x_fetch q_k110 29 = x_gf 32 8 3 := rfl
theorem t110_29 (C : xF) (s n : Nat) (z : xS) : x_to q_k110 C s (n + 1) 29 z = x_nx q_k110 C s n ((x_gf 32 8 3) C z) := x_to_at f110_29 C s n z
theorem f110_32 : x_fetch q_k110 32 = x_st (x_push 34 (.int (44))) := rfl
theorem t110_32 (C : xF) (s n : Nat) (z : xS) : x_to q_k110 C s (n + 1) 32 z = x_nx q_k110 C s n ((x_st (x_push 34 (.int (44)))) C z) := x_to_at f110_32 C s n z
theorem f110_34 : x_fetch q_k110 34 = x_ldi 35 1 := rfl
theorem t110_34 (C : xF) (s n : Nat) (z : xS) : x_to q_k110 C s (n + 1) 34 z = x_nx q_k110 C s n ((x_ldi 35 1) C z) := x_to_at f110_34 C s n z
theorem f110_35 : x_fetch q_k110 35 = x_st (x_bin 36 (fun a b => a * b)) := rfl
theorem t110_35 (C : xF) (s n : Nat) (z : xS) : x_to q_k110 C s (n + 1) 35 z = x_nx q_k110 C s n ((x_st (x_bin 36 (fun a b => a * b))) C z) := x_to_at f110_35 C s n z
theorem f110_36 : x_fetch q_k110 36 = x_ldi 38 5 := rfl
theorem t110_36 (C : xF) (s n : Nat) (z : xS) : x_to q_k110 C s (n + 1) 36 z = x_nx q_k110 C s n ((x_ldi 38 5) C z) := x_to_at f110_36 C s n z
theorem f110_38 : x_fetch q_k110 38 = x_st (x_bin 39 (fun a b => a + b)) := rfl
theorem t110_38 (C : xF) (s n : Nat) (z : xS) : x_to q_k110 C s (n + 1) 38 z = x_nx q_k110 C s n ((x_st (x_bin 39 (fun a b => a + b))) C z) := x_to_at f110_38 C s n z
theorem f110_39 : x_fetch q_k110 39 = x_ald 40 0 := rfl
theorem t110_39 (C : xF) (s n : Nat) (z : xS) : x_to q_k110 C s (n + 1) 39 z = x_nx q_k110 C s n ((x_ald 40 0) C z) := x_to_at f110_39 C s n z
theorem f110_40 : x_fetch q_k110 40 = x_sti 42 6 := rfl
theorem t110_40 (C : xF) (s n : Nat) (z : xS) : x_to q_k110 C s (n + 1) 40 z = x_nx q_k110 C s n ((x_sti 42 6) C z) := x_to_at f110_40 C s n z
theorem f110_42 : x_fetch q_k110 42 = x_lda 43 0 := rfl
theorem t110_42 (C : xF) (s n : Nat) (z : xS) : x_to q_k110 C s (n + 1) 42 z = x_nx q_k110 C s n ((x_lda 43 0) C z) := x_to_at f110_42 C s n z
theorem f110_43 : x_fetch q_k110 43 = x_gf 46 8 29 := rfl
theorem t110_43 (C : xF) (s n : Nat) (z : xS) : x_to q_k110 C s (n + 1) 43 z = x_nx q_k110 C s n ((x_gf 46 8 29) C z) := x_to_at f110_43 C s n z
theorem f110_46 : x_fetch q_k110 46 = x_ldi 47 2 := rfl
theorem t110_46 (C : xF) (s n : Nat) (z : xS) : x_to q_k110 C s (n + 1) 46 z = x_nx q_k110 C s n ((x_ldi 47 2) C z) := x_to_at f110_46 C s n z
theorem f110_47 : x_fetch q_k110 47 = x_ldi 49 5 := rfl
theorem t110_47 (C : xF) (s n : Nat) (z : xS) : x_to q_k110 C s (n + 1) 47 z = x_nx q_k110 C s n ((x_ldi 49 5) C z) := x_to_at f110_47 C s n z
theorem f110_49 : x_fetch q_k110 49 = x_st (x_bin 50 (fun a b => a + b)) := rfl
theorem t110_49 (C : xF) (s n : Nat) (z : xS) : x_to q_k110 C s (n + 1) 49 z = x_nx q_k110 C s n ((x_st (x_bin 50 (fun a b => a + b))) C z) := x_to_at f110_49 C s n z
theorem f110_50 : x_fetch q_k110 50 = x_ldi 52 6 := rfl
theorem t110_50 (C : xF) (s n : Nat) (z : xS) : x_to q_k110 C s (n + 1) 50 z = x_nx q_k110 C s n ((x_ldi 52 6) C z) := x_to_at f110_50 C s n z
theorem f110_52 : x_fetch q_k110 52 = x_st (x_push 54 (.int (99))) := rfl
theorem t110_52 (C : xF) (s n : Nat) (z : xS) : x_to q_k110 C s (n + 1) 52 z = x_nx q_k110 C s n ((x_st (x_push 54 (.int (99)))) C z) := x_to_at f110_52 C s n z
theorem f110_54 : x_fetch q_k110 54 = x_st (x_icge 64 57) := rfl
theorem t110_54 (C : xF) (s n : Nat) (z : xS) : x_to q_k110 C s (n + 1) 54 z = x_nx q_k110 C s n ((x_st (x_icge 64 57)) C z) := x_to_at f110_54 C s n z
theorem f110_57 : x_fetch q_k110 57 = x_ldi 59 6 := rfl
theorem t110_57 (C : xF) (s n : Nat) (z : xS) : x_to q_k110 C s (n + 1) 57 z = x_nx q_k110 C s n ((x_ldi 59 6) C z) := x_to_at f110_57 C s n z
theorem f110_59 : x_fetch q_k110 59 = x_ldi 60 3 := rfl
theorem t110_59 (C : xF) (s n : Nat) (z : xS) : x_to q_k110 C s (n + 1) 59 z = x_nx q_k110 C s n ((x_ldi 60 3) C z) := x_to_at f110_59 C s n z
theorem f110_60 : x_fetch q_k110 60 = x_st (x_bin 61 (fun a b => a + b)) := rfl
theorem t110_60 (C : xF) (s n : Nat) (z : xS) : x_to q_k110 C s (n + 1) 60 z = x_nx q_k110 C s n ((x_st (x_bin 61 (fun a b => a + b))) C z) := x_to_at f110_60 C s n z
theorem f110_61 : x_fetch q_k110 61 = x_st (x_goto 66) := rfl
theorem t110_61 (C : xF) (s n : Nat) (z : xS) : x_to q_k110 C s (n + 1) 61 z = x_nx q_k110 C s n ((x_st (x_goto 66)) C z) := x_to_at f110_61 C s n z
theorem f110_64 : x_fetch q_k110 64 = x_ldi 66 6 := rfl
theorem t110_64 (C : xF) (s n : Nat) (z : xS) : x_to q_k110 C s (n + 1) 64 z = x_nx q_k110 C s n ((x_ldi 66 6) C z) := x_to_at f110_64 C s n z
theorem f110_66 : x_fetch q_k110 66 = x_ast 67 0 (fun x => x) := rfl
theorem t110_66 (C : xF) (s n : Nat) (z : xS) : x_to q_k110 C s (n + 1) 66 z = x_nx q_k110 C s n ((x_ast 67 0 (fun x => x)) C z) := x_to_at f110_66 C s n z
theorem f110_67 : x_fetch q_k110 67 = x_iinc 70 5 (1) := rfl
theorem t110_67 (C : xF) (s n : Nat) (z : xS) : x_to q_k110 C s (n + 1) 67 z = x_nx q_k110 C s n ((x_iinc 70 5 (1)) C z) := x_to_at f110_67 C s n z
theorem f110_70 : x_fetch q_k110 70 = x_st (x_goto 21) := rfl
theorem t110_70 (C : xF) (s n : Nat) (z : xS) : x_to q_k110 C s (n + 1) 70 z = x_nx q_k110 C s n ((x_st (x_goto 21)) C z) := x_to_at f110_70 C s n z
theorem f110_73 : x_fetch q_k110 73 = x_rv := rfl
theorem t110_73 (C : xF) (s n : Nat) (z : xS) : x_to q_k110 C s (n + 1) 73 z = x_nx q_k110 C s n ((x_rv) C z) := x_to_at f110_73 C s n z
theorem f118_0 : x_fetch q_k118 0 = x_st (x_push 1 (.int (0))) := rfl
theorem t118_0 (C : xF) (s n : Nat) (z : xS) : x_to q_k118 C s (n + 1) 0 z = x_nx q_k118 C s n ((x_st (x_push 1 (.int (0)))) C z) := x_to_at f118_0 C s n z
theorem f118_1 : x_fetch q_k118 1 = x_sti 3 4 := rfl
theorem t118_1 (C : xF) (s n : Nat) (z : xS) : x_to q_k118 C s (n + 1) 1 z = x_nx q_k118 C s n ((x_sti 3 4) C z) := x_to_at f118_1 C s n z
theorem f118_3 : x_fetch q_k118 3 = x_ldi 4 1 := rfl
theorem t118_3 (C : xF) (s n : Nat) (z : xS) : x_to q_k118 C s (n + 1) 3 z = x_nx q_k118 C s n ((x_ldi 4 1) C z) := x_to_at f118_3 C s n z
theorem f118_4 : x_fetch q_k118 4 = x_st (x_push 5 (.int (1))) := rfl
theorem t118_4 (C : xF) (s n : Nat) (z : xS) : x_to q_k118 C s (n + 1) 4 z = x_nx q_k118 C s n ((x_st (x_push 5 (.int (1)))) C z) := x_to_at f118_4 C s n z
theorem f118_5 : x_fetch q_k118 5 = x_st (x_bin 6 (fun a b => a + b)) := rfl
theorem t118_5 (C : xF) (s n : Nat) (z : xS) : x_to q_k118 C s (n + 1) 5 z = x_nx q_k118 C s n ((x_st (x_bin 6 (fun a b => a + b))) C z) := x_to_at f118_5 C s n z
theorem f118_6 : x_fetch q_k118 6 = x_sti 8 5 := rfl
theorem t118_6 (C : xF) (s n : Nat) (z : xS) : x_to q_k118 C s (n + 1) 6 z = x_nx q_k118 C s n ((x_sti 8 5) C z) := x_to_at f118_6 C s n z
theorem f118_8 : x_fetch q_k118 8 = x_ldi 10 5 := rfl
theorem t118_8 (C : xF) (s n : Nat) (z : xS) : x_to q_k118 C s (n + 1) 8 z = x_nx q_k118 C s n ((x_ldi 10 5) C z) := x_to_at f118_8 C s n z
theorem f118_10 : x_fetch q_k118 10 = x_ldi 11 2 := rfl
theorem t118_10 (C : xF) (s n : Nat) (z : xS) : x_to q_k118 C s (n + 1) 10 z = x_nx q_k118 C s n ((x_ldi 11 2) C z) := x_to_at f118_10 C s n z
theorem f118_11 : x_fetch q_k118 11 = x_st (x_icge 48 14) := rfl
theorem t118_11 (C : xF) (s n : Nat) (z : xS) : x_to q_k118 C s (n + 1) 11 z = x_nx q_k118 C s n ((x_st (x_icge 48 14)) C z) := x_to_at f118_11 C s n z
theorem f118_14 : x_fetch q_k118 14 = x_ldi 16 4 := rfl
theorem t118_14 (C : xF) (s n : Nat) (z : xS) : x_to q_k118 C s (n + 1) 14 z = x_nx q_k118 C s n ((x_ldi 16 4) C z) := x_to_at f118_14 C s n z
theorem f118_16 : x_fetch q_k118 16 = x_ldi 17 3 := rfl
theorem t118_16 (C : xF) (s n : Nat) (z : xS) : x_to q_k118 C s (n + 1) 16 z = x_nx q_k118 C s n ((x_ldi 17 3) C z) := x_to_at f118_16 C s n z
theorem f118_17 : x_fetch q_k118 17 = x_st (x_icne 39 20) := rfl
theorem t118_17 (C : xF) (s n : Nat) (z : xS) : x_to q_k118 C s (n + 1) 17 z = x_nx q_k118 C s n ((x_st (x_icne 39 20)) C z) := x_to_at f118_17 C s n z
theorem f118_20 : x_fetch q_k118 20 = x_lda 21 0 := rfl
theorem t118_20 (C : xF) (s n : Nat) (z : xS) : x_to q_k118 C s (n + 1) 20 z = x_nx q_k118 C s n ((x_lda 21 0) C z) := x_to_at f118_20 C s n z
theorem f118_21 : x_fetch q_k118 21 = x_gf 24 8 29 := rfl
theorem t118_21 (C : xF) (s n : Nat) (z : xS) : x_to q_k118 C s (n + 1) 21 z = x_nx q_k118 C s n ((x_gf 24 8 29) C z) := x_to_at f118_21 C s n z
theorem f118_24 : x_fetch q_k118 24 = x_ldi 26 5 := rfl
theorem t118_24 (C : xF) (s n : Nat) (z : xS) : x_to q_k118 C s (n + 1) 24 z = x_nx q_k118 C s n ((x_ldi 26 5) C z) := x_to_at f118_24 C s n z
theorem f118_26 : x_fetch q_k118 26 = x_ald 27 0 := rfl
theorem t118_26 (C : xF) (s n : Nat) (z : xS) : x_to q_k118 C s (n + 1) 26 z = x_nx q_k118 C s n ((x_ald 27 0) C z) := x_to_at f118_26 C s n z
theorem f118_27 : x_fetch q_k118 27 = x_st (x_push 29 (.int (99))) := rfl
theorem t118_27 (C : xF) (s n : Nat) (z : xS) : x_to q_k118 C s (n + 1) 27 z = x_nx q_k118 C s n ((x_st (x_push 29 (.int (99)))) C z) := x_to_at f118_27 C s n z
theorem f118_29 : x_fetch q_k118 29 = x_st (x_icge 36 32) := rfl
theorem t118_29 (C : xF) (s n : Nat) (z : xS) : x_to q_k118 C s (n + 1) 29 z = x_nx q_k118 C s n ((x_st (x_icge 36 32)) C z) := x_to_at f118_29 C s n z
theorem f118_32 : x_fetch q_k118 32 = x_st (x_push 33 (.int (-1))) := rfl
theorem t118_32 (C : xF) (s n : Nat) (z : xS) : x_to q_k118 C s (n + 1) 32 z = x_nx q_k118 C s n ((x_st (x_push 33 (.int (-1)))) C z) := x_to_at f118_32 C s n z
theorem f118_33 : x_fetch q_k118 33 = x_st (x_goto 38) := rfl
theorem t118_33 (C : xF) (s n : Nat) (z : xS) : x_to q_k118 C s (n + 1) 33 z = x_nx q_k118 C s n ((x_st (x_goto 38)) C z) := x_to_at f118_33 C s n z
theorem f118_36 : x_fetch q_k118 36 = x_ldi 38 5 := rfl
theorem t118_36 (C : xF) (s n : Nat) (z : xS) : x_to q_k118 C s (n + 1) 36 z = x_nx q_k118 C s n ((x_ldi 38 5) C z) := x_to_at f118_36 C s n z
theorem f118_38 : x_fetch q_k118 38 = x_ri (.int) := rfl
theorem t118_38 (C : xF) (s n : Nat) (z : xS) : x_to q_k118 C s (n + 1) 38 z = x_nx q_k118 C s n ((x_ri (.int)) C z) := x_to_at f118_38 C s n z
theorem f118_39 : x_fetch q_k118 39 = x_iinc 42 4 (1) := rfl
theorem t118_39 (C : xF) (s n : Nat) (z : xS) : x_to q_k118 C s (n + 1) 39 z = x_nx q_k118 C s n ((x_iinc 42 4 (1)) C z) := x_to_at f118_39 C s n z
theorem f118_42 : x_fetch q_k118 42 = x_iinc 45 5 (1) := rfl
theorem t118_42 (C : xF) (s n : Nat) (z : xS) : x_to q_k118 C s (n + 1) 42 z = x_nx q_k118 C s n ((x_iinc 45 5 (1)) C z) := x_to_at f118_42 C s n z
theorem f118_45 : x_fetch q_k118 45 = x_st (x_goto 8) := rfl
theorem t118_45 (C : xF) (s n : Nat) (z : xS) : x_to q_k118 C s (n + 1) 45 z = x_nx q_k118 C s n ((x_st (x_goto 8)) C z) := x_to_at f118_45 C s n z
theorem f118_48 : x_fetch q_k118 48 = x_st (x_push 49 (.int (-1))) := rfl
theorem t118_48 (C : xF) (s n : Nat) (z : xS) : x_to q_k118 C s (n + 1) 48 z = x_nx q_k118 C s n ((x_st (x_push 49 (.int (-1)))) C z) := x_to_at f118_48 C s n z
theorem f118_49 : x_fetch q_k118 49 = x_ri (.int) := rfl
theorem t118_49 (C : xF) (s n : Nat) (z : xS) : x_to q_k118 C s (n + 1) 49 z = x_nx q_k118 C s n ((x_ri (.int)) C z) := x_to_at f118_49 C s n z
theorem f129_0 : x_fetch q_k129 0 = x_st (x_push 1 (.int (1))) := rfl
theorem t129_0 (C : xF) (s n : Nat) (z : xS) : x_to q_k129 C s (n + 1) 0 z = x_nx q_k129 C s n ((x_st (x_push 1 (.int (1)))) C z) := x_to_at f129_0 C s n z
theorem f129_1 : x_fetch q_k129 1 = x_sti 2 3 := rfl
theorem t129_1 (C : xF) (s n : Nat) (z : xS) : x_to q_k129 C s (n + 1) 1 z = x_nx q_k129 C s n ((x_sti 2 3) C z) := x_to_at f129_1 C s n z
theorem f129_2 : x_fetch q_k129 2 = x_lda 3 0 := rfl
theorem t129_2 (C : xF) (s n : Nat) (z : xS) : x_to q_k129 C s (n + 1) 2 z = x_nx q_k129 C s n ((x_lda 3 0) C z) := x_to_at f129_2 C s n z
theorem f129_3 : x_fetch q_k129 3 = x_ldi 4 1 := rfl
theorem t129_3 (C : xF) (s n : Nat) (z : xS) : x_to q_k129 C s (n + 1) 3 z = x_nx q_k129 C s n ((x_ldi 4 1) C z) := x_to_at f129_3 C s n z
theorem f129_4 : x_fetch q_k129 4 = x_cv 7 109 2 8 := rfl
theorem t129_4 (C : xF) (s n : Nat) (z : xS) : x_to q_k129 C s (n + 1) 4 z = x_nx q_k129 C s n ((x_cv 7 109 2 8) C z) := x_to_at f129_4 C s n z
theorem f129_7 : x_fetch q_k129 7 = x_ldi 8 1 := rfl
theorem t129_7 (C : xF) (s n : Nat) (z : xS) : x_to q_k129 C s (n + 1) 7 z = x_nx q_k129 C s n ((x_ldi 8 1) C z) := x_to_at f129_7 C s n z
theorem f129_8 : x_fetch q_k129 8 = x_st (x_bin 9 (fun a b => a - b)) := rfl
theorem t129_8 (C : xF) (s n : Nat) (z : xS) : x_to q_k129 C s (n + 1) 8 z = x_nx q_k129 C s n ((x_st (x_bin 9 (fun a b => a - b))) C z) := x_to_at f129_8 C s n z
theorem f129_9 : x_fetch q_k129 9 = x_sti 11 4 := rfl
theorem t129_9 (C : xF) (s n : Nat) (z : xS) : x_to q_k129 C s (n + 1) 9 z = x_nx q_k129 C s n ((x_sti 11 4) C z) := x_to_at f129_9 C s n z
theorem f129_11 : x_fetch q_k129 11 = x_st (x_push 12 (.int (0))) := rfl
theorem t129_11 (C : xF) (s n : Nat) (z : xS) : x_to q_k129 C s (n + 1) 11 z = x_nx q_k129 C s n ((x_st (x_push 12 (.int (0)))) C z) := x_to_at f129_11 C s n z
theorem f129_12 : x_fetch q_k129 12 = x_sti 14 5 := rfl
theorem t129_12 (C : xF) (s n : Nat) (z : xS) : x_to q_k129 C s (n + 1) 12 z = x_nx q_k129 C s n ((x_sti 14 5) C z) := x_to_at f129_12 C s n z
theorem f129_14 : x_fetch q_k129 14 = x_ldi 16 5 := rfl
theorem t129_14 (C : xF) (s n : Nat) (z : xS) : x_to q_k129 C s (n + 1) 14 z = x_nx q_k129 C s n ((x_ldi 16 5) C z) := x_to_at f129_14 C s n z
theorem f129_16 : x_fetch q_k129 16 = x_ldi 18 4 := rfl
theorem t129_16 (C : xF) (s n : Nat) (z : xS) : x_to q_k129 C s (n + 1) 16 z = x_nx q_k129 C s n ((x_ldi 18 4) C z) := x_to_at f129_16 C s n z
theorem f129_18 : x_fetch q_k129 18 = x_st (x_icge 58 21) := rfl
theorem t129_18 (C : xF) (s n : Nat) (z : xS) : x_to q_k129 C s (n + 1) 18 z = x_nx q_k129 C s n ((x_st (x_icge 58 21)) C z) := x_to_at f129_18 C s n z
theorem f129_21 : x_fetch q_k129 21 = x_ldi 22 3 := rfl
theorem t129_21 (C : xF) (s n : Nat) (z : xS) : x_to q_k129 C s (n + 1) 21 z = x_nx q_k129 C s n ((x_ldi 22 3) C z) := x_to_at f129_21 C s n z
theorem f129_22 : x_fetch q_k129 22 = x_st (x_ifeq 58 25) := rfl
theorem t129_22 (C : xF) (s n : Nat) (z : xS) : x_to q_k129 C s (n + 1) 22 z = x_nx q_k129 C s n ((x_st (x_ifeq 58 25)) C z) := x_to_at f129_22 C s n z
theorem f129_25 : x_fetch q_k129 25 = x_lda 26 0 := rfl
theorem t129_25 (C : xF) (s n : Nat) (z : xS) : x_to q_k129 C s (n + 1) 25 z = x_nx q_k129 C s n ((x_lda 26 0) C z) := x_to_at f129_25 C s n z
theorem f129_26 : x_fetch q_k129 26 = x_gf 29 8 29 := rfl
theorem t129_26 (C : xF) (s n : Nat) (z : xS) : x_to q_k129 C s (n + 1) 26 z = x_nx q_k129 C s n ((x_gf 29 8 29) C z) := x_to_at f129_26 C s n z
theorem f129_29 : x_fetch q_k129 29 = x_ldi 30 1 := rfl
theorem t129_29 (C : xF) (s n : Nat) (z : xS) : x_to q_k129 C s (n + 1) 29 z = x_nx q_k129 C s n ((x_ldi 30 1) C z) := x_to_at f129_29 C s n z
theorem f129_30 : x_fetch q_k129 30 = x_ldi 32 5 := rfl
theorem t129_30 (C : xF) (s n : Nat) (z : xS) : x_to q_k129 C s (n + 1) 30 z = x_nx q_k129 C s n ((x_ldi 32 5) C z) := x_to_at f129_30 C s n z
theorem f129_32 : x_fetch q_k129 32 = x_st (x_bin 33 (fun a b => a + b)) := rfl
theorem t129_32 (C : xF) (s n : Nat) (z : xS) : x_to q_k129 C s (n + 1) 32 z = x_nx q_k129 C s n ((x_st (x_bin 33 (fun a b => a + b))) C z) := x_to_at f129_32 C s n z
theorem f129_33 : x_fetch q_k129 33 = x_ald 34 0 := rfl
theorem t129_33 (C : xF) (s n : Nat) (z : xS) : x_to q_k129 C s (n + 1) 33 z = x_nx q_k129 C s n ((x_ald 34 0) C z) := x_to_at f129_33 C s n z
theorem f129_34 : x_fetch q_k129 34 = x_lda 35 0 := rfl
theorem t129_34 (C : xF) (s n : Nat) (z : xS) : x_to q_k129 C s (n + 1) 34 z = x_nx q_k129 C s n ((x_lda 35 0) C z) := x_to_at f129_34 C s n z
theorem f129_35 : x_fetch q_k129 35 = x_gf 38 8 29 := rfl
theorem t129_35 (C : xF) (s n : Nat) (z : xS) : x_to q_k129 C s (n + 1) 35 z = x_nx q_k129 C s n ((x_gf 38 8 29) C z) := x_to_at f129_35 C s n z
theorem f129_38 : x_fetch q_k129 38 = x_ldi 39 2 := rfl
theorem t129_38 (C : xF) (s n : Nat) (z : xS) : x_to q_k129 C s (n + 1) 38 z = x_nx q_k129 C s n ((x_ldi 39 2) C z) := x_to_at f129_38 C s n z
theorem f129_39 : x_fetch q_k129 39 = x_ldi 41 5 := rfl
theorem t129_39 (C : xF) (s n : Nat) (z : xS) : x_to q_k129 C s (n + 1) 39 z = x_nx q_k129 C s n ((x_ldi 41 5) C z) := x_to_at f129_39 C s n z
theorem f129_41 : x_fetch q_k129 41 = x_st (x_bin 42 (fun a b => a + b)) := rfl
theorem t129_41 (C : xF) (s n : Nat) (z : xS) : x_to q_k129 C s (n + 1) 41 z = x_nx q_k129 C s n ((x_st (x_bin 42 (fun a b => a + b))) C z) := x_to_at f129_41 C s n z
theorem f129_42 : x_fetch q_k129 42 = x_ald 43 0 := rfl
theorem t129_42 (C : xF) (s n : Nat) (z : xS) : x_to q_k129 C s (n + 1) 42 z = x_nx q_k129 C s n ((x_ald 43 0) C z) := x_to_at f129_42 C s n z
theorem f129_43 : x_fetch q_k129 43 = x_st (x_icne 50 46) := rfl
theorem t129_43 (C : xF) (s n : Nat) (z : xS) : x_to q_k129 C s (n + 1) 43 z = x_nx q_k129 C s n ((x_st (x_icne 50 46)) C z) := x_to_at f129_43 C s n z
theorem f129_46 : x_fetch q_k129 46 = x_st (x_push 47 (.int (1))) := rfl
theorem t129_46 (C : xF) (s n : Nat) (z : xS) : x_to q_k129 C s (n + 1) 46 z = x_nx q_k129 C s n ((x_st (x_push 47 (.int (1)))) C z) := x_to_at f129_46 C s n z
theorem f129_47 : x_fetch q_k129 47 = x_st (x_goto 51) := rfl
theorem t129_47 (C : xF) (s n : Nat) (z : xS) : x_to q_k129 C s (n + 1) 47 z = x_nx q_k129 C s n ((x_st (x_goto 51)) C z) := x_to_at f129_47 C s n z
theorem f129_50 : x_fetch q_k129 50 = x_st (x_push 51 (.int (0))) := rfl
theorem t129_50 (C : xF) (s n : Nat) (z : xS) : x_to q_k129 C s (n + 1) 50 z = x_nx q_k129 C s n ((x_st (x_push 51 (.int (0)))) C z) := x_to_at f129_50 C s n z
theorem f129_51 : x_fetch q_k129 51 = x_sti 52 3 := rfl
theorem t129_51 (C : xF) (s n : Nat) (z : xS) : x_to q_k129 C s (n + 1) 51 z = x_nx q_k129 C s n ((x_sti 52 3) C z) := x_to_at f129_51 C s n z
theorem f129_52 : x_fetch q_k129 52 = x_iinc 55 5 (1) := rfl
theorem t129_52 (C : xF) (s n : Nat) (z : xS) : x_to q_k129 C s (n + 1) 52 z = x_nx q_k129 C s n ((x_iinc 55 5 (1)) C z) := x_to_at f129_52 C s n z
theorem f129_55 : x_fetch q_k129 55 = x_st (x_goto 14) := rfl
theorem t129_55 (C : xF) (s n : Nat) (z : xS) : x_to q_k129 C s (n + 1) 55 z = x_nx q_k129 C s n ((x_st (x_goto 14)) C z) := x_to_at f129_55 C s n z
theorem f129_58 : x_fetch q_k129 58 = x_ldi 59 3 := rfl
theorem t129_58 (C : xF) (s n : Nat) (z : xS) : x_to q_k129 C s (n + 1) 58 z = x_nx q_k129 C s n ((x_ldi 59 3) C z) := x_to_at f129_58 C s n z
theorem f129_59 : x_fetch q_k129 59 = x_ri (.boolean) := rfl
theorem t129_59 (C : xF) (s n : Nat) (z : xS) : x_to q_k129 C s (n + 1) 59 z = x_nx q_k129 C s n ((x_ri (.boolean)) C z) := x_to_at f129_59 C s n z
def shf (hg s : Int) : Int := if s < 99 then s + hg else s
section LY
variable {w : Nat → xC} {N : Nat} {m : Nat → Int} {S Sg Be Ma Pl Us : List Int}
theorem l110 (d : Nat) (hN : 53 ≤ N) (hm : w 27 = .inr (8, mF m)) (hSg : w 28 = cI 0 Sg) (s1 : Sg.length = 1320) (hr : ∀ i, 0 ≤ gZ Sg i ∧ gZ Sg i < 100000) (c to hg n : Int) (c0 : 0 ≤ c) (c1_ : c < 30) (t0 : 0 ≤ to) (t1 : to + n ≤ 160) (g0 : 0 ≤ hg) (g1 : hg ≤ 26) (n1 : n ≤ 44) : ∀ (r : Nat) (k : Int) (Q : List Int) (lv : xL), Q.length = 160 → k + r = n → 0 ≤ k → c1 lv → x_lk lv 0 = some (.ref 30) → x_lk lv 1 = some (.int (iZ c)) → x_lk lv 2 = some (.int (iZ to)) → x_lk lv 3 = some (.int (iZ hg)) → x_lk lv 4 = some (.int (iZ n)) → x_lk lv 5 = some (.int (iZ k)) →
    Gx q_k110 d 21 (lv, [], hp (uH w 45 (cI 0 Q)) N) (none, hp (uH w 45 (cI 0 (cpl to (fun k => shf hg (gZ Sg (44 * c + k))) r k Q))) N) := by
  intro r
  induction r with
  | zero =>
    intro k Q lv hQ hk k0 hc l0 l1 l2 l3 l4 l5
    refine Gx.fin 20 Cs.tt (fun C _ => ?_)
    have b1 : n ≤ k := by omega
    simp (disch := first | (refine c1_id ?_; assumption) | (refine c1_st rfl ?_; repeat (first | assumption | refine c1_st rfl ?_)) | omega) [nx_l, nx_r, nx_n, x_st, x_push, x_bin, x_div, x_un, x_dup, x_pop, x_dup2, x_goto, x_ifeq, x_ifne, x_iflt, x_ifge, x_ifgt, x_ifle, x_iceq, x_icne, x_iclt, x_icge, x_icgt, x_icle, x_ifnull, x_ifnonnull, x_ldi, x_lda, x_sti, x_sta, x_iinc, x_gf, x_pf, x_ald, x_ast, x_aln, x_len, x_cl_, x_cv, x_cs, x_rc, x_r0, x_isT, x_oi, x_rv, x_ri, x_ra, Value.category, t110_0, t110_1, t110_4, t110_6, t110_7, t110_8, t110_9, t110_12, t110_13, t110_14, t110_15, t110_16, t110_18, t110_19, t110_21, t110_23, t110_25, t110_28, t110_29, t110_32, t110_34, t110_35, t110_36, t110_38, t110_39, t110_40, t110_42, t110_43, t110_46, t110_47, t110_49, t110_50, t110_52, t110_54, t110_57, t110_59, t110_60, t110_61, t110_64, t110_66, t110_67, t110_70, t110_73, lk_s, hp_get, hp_set, uH_at, uH_ne, uH_upd, uH_swap, iZ_add, iZ_sub, iZ_mul, iZ_neg, iZ_lt, iZ_le, iZ_eq, iZ_div, iZ_of, ix_Z, gZ_map, gZ_mapI, gZ_map', le_0, le_s, sZ_map, sZ_len, bZ_0, bZ_inj, bZ_t, bZ_f, nr_i, nr_0, nr_1, nr_b, ft_i, ft_b, ft_0, ft_1, zl_0, zl_1, zl_7, zl_44, zl_99, mF_len, mg_0, mg_1, mg_2, mg_3, mg_4, mg_5, mg_6, mg_7, mg_8, mg_9, mg_10, mg_11, mg_12, mg_13, mg_14, mg_15, mg_16, mg_17, mg_18, mg_19, mg_20, mg_21, mg_22, mg_23, mg_24, mg_25, mg_26, mg_27, mg_28, mg_29, mg_30, mg_31, mg_32, mg_33, mg_34, mg_35, mg_36, mg_37, mg_38, ms_0, ms_1, ms_2, ms_13, ms_14, ms_15, ms_16, ms_21, ms_22, ms_23, ms_24, ms_28, ms_36, ms_37, ms_38, st_at, st_ne, st_st, st_swap, l0, l4, l5, b1, cpl, -List.filter_filter, -List.getElem?_map, -List.getD_eq_getElem?_getD]
  | succ r ih =>
    intro k Q lv hQ hk k0 hc l0 l1 l2 l3 l4 l5
    have C1 := c1_st (i := 6) (v := .int (iZ (gZ Sg (44 * c + k)))) rfl hc
    have C2 := c1_st (i := 5) (v := .int (iZ (k + 1))) rfl C1
    have k3 := ih (k + 1) (sZ Q (to + k) (shf hg (gZ Sg (44 * c + k)))) _ (by rw [sZ_len]; exact hQ) (by omega) (by omega) C2 (by rw [lk_s C1, lk_s hc]; exact l0) (by rw [lk_s C1, lk_s hc]; exact l1) (by rw [lk_s C1, lk_s hc]; exact l2) (by rw [lk_s C1, lk_s hc]; exact l3) (by rw [lk_s C1, lk_s hc]; exact l4) (by rw [lk_s C1]; rfl)
    refine Gx.run 80 Cs.tt (fun C _ => ?_) k3
    have b1 : ¬ n ≤ k := by omega
    have hq := hr (44 * c + k)
    by_cases b2 : 99 ≤ gZ Sg (44 * c + k)
    · have e : shf hg (gZ Sg (44 * c + k)) = gZ Sg (44 * c + k) := if_neg (by omega)
      simp (disch := first | (refine c1_id ?_; assumption) | (refine c1_st rfl ?_; repeat (first | assumption | refine c1_st rfl ?_)) | omega) [nx_l, nx_r, nx_n, x_st, x_push, x_bin, x_div, x_un, x_dup, x_pop, x_dup2, x_goto, x_ifeq, x_ifne, x_iflt, x_ifge, x_ifgt, x_ifle, x_iceq, x_icne, x_iclt, x_icge, x_icgt, x_icle, x_ifnull, x_ifnonnull, x_ldi, x_lda, x_sti, x_sta, x_iinc, x_gf, x_pf, x_ald, x_ast, x_aln, x_len, x_cl_, x_cv, x_cs, x_rc, x_r0, x_isT, x_oi, x_rv, x_ri, x_ra, Value.category, t110_0, t110_1, t110_4, t110_6, t110_7, t110_8, t110_9, t110_12, t110_13, t110_14, t110_15, t110_16, t110_18, t110_19, t110_21, t110_23, t110_25, t110_28, t110_29, t110_32, t110_34, t110_35, t110_36, t110_38, t110_39, t110_40, t110_42, t110_43, t110_46, t110_47, t110_49, t110_50, t110_52, t110_54, t110_57, t110_59, t110_60, t110_61, t110_64, t110_66, t110_67, t110_70, t110_73, lk_s, hp_get, hp_set, uH_at, uH_ne, uH_upd, uH_swap, iZ_add, iZ_sub, iZ_mul, iZ_neg, iZ_lt, iZ_le, iZ_eq, iZ_div, iZ_of, ix_Z, gZ_map, gZ_mapI, gZ_map', le_0, le_s, sZ_map, sZ_len, bZ_0, bZ_inj, bZ_t, bZ_f, nr_i, nr_0, nr_1, nr_b, ft_i, ft_b, ft_0, ft_1, zl_0, zl_1, zl_7, zl_44, zl_99, mF_len, mg_0, mg_1, mg_2, mg_3, mg_4, mg_5, mg_6, mg_7, mg_8, mg_9, mg_10, mg_11, mg_12, mg_13, mg_14, mg_15, mg_16, mg_17, mg_18, mg_19, mg_20, mg_21, mg_22, mg_23, mg_24, mg_25, mg_26, mg_27, mg_28, mg_29, mg_30, mg_31, mg_32, mg_33, mg_34, mg_35, mg_36, mg_37, mg_38, ms_0, ms_1, ms_2, ms_13, ms_14, ms_15, ms_16, ms_21, ms_22, ms_23, ms_24, ms_28, ms_36, ms_37, ms_38, st_at, st_ne, st_st, st_swap, l0, l1, l2, l3, l4, l5, hm, hSg, b1, b2, e, -List.filter_filter, -List.getElem?_map, -List.getD_eq_getElem?_getD]
    · have e : shf hg (gZ Sg (44 * c + k)) = gZ Sg (44 * c + k) + hg := if_pos (by omega)
      simp (disch := first | (refine c1_id ?_; assumption) | (refine c1_st rfl ?_; repeat (first | assumption | refine c1_st rfl ?_)) | omega) [nx_l, nx_r, nx_n, x_st, x_push, x_bin, x_div, x_un, x_dup, x_pop, x_dup2, x_goto, x_ifeq, x_ifne, x_iflt, x_ifge, x_ifgt, x_ifle, x_iceq, x_icne, x_iclt, x_icge, x_icgt, x_icle, x_ifnull, x_ifnonnull, x_ldi, x_lda, x_sti, x_sta, x_iinc, x_gf, x_pf, x_ald, x_ast, x_aln, x_len, x_cl_, x_cv, x_cs, x_rc, x_r0, x_isT, x_oi, x_rv, x_ri, x_ra, Value.category, t110_0, t110_1, t110_4, t110_6, t110_7, t110_8, t110_9, t110_12, t110_13, t110_14, t110_15, t110_16, t110_18, t110_19, t110_21, t110_23, t110_25, t110_28, t110_29, t110_32, t110_34, t110_35, t110_36, t110_38, t110_39, t110_40, t110_42, t110_43, t110_46, t110_47, t110_49, t110_50, t110_52, t110_54, t110_57, t110_59, t110_60, t110_61, t110_64, t110_66, t110_67, t110_70, t110_73, lk_s, hp_get, hp_set, uH_at, uH_ne, uH_upd, uH_swap, iZ_add, iZ_sub, iZ_mul, iZ_neg, iZ_lt, iZ_le, iZ_eq, iZ_div, iZ_of, ix_Z, gZ_map, gZ_mapI, gZ_map', le_0, le_s, sZ_map, sZ_len, bZ_0, bZ_inj, bZ_t, bZ_f, nr_i, nr_0, nr_1, nr_b, ft_i, ft_b, ft_0, ft_1, zl_0, zl_1, zl_7, zl_44, zl_99, mF_len, mg_0, mg_1, mg_2, mg_3, mg_4, mg_5, mg_6, mg_7, mg_8, mg_9, mg_10, mg_11, mg_12, mg_13, mg_14, mg_15, mg_16, mg_17, mg_18, mg_19, mg_20, mg_21, mg_22, mg_23, mg_24, mg_25, mg_26, mg_27, mg_28, mg_29, mg_30, mg_31, mg_32, mg_33, mg_34, mg_35, mg_36, mg_37, mg_38, ms_0, ms_1, ms_2, ms_13, ms_14, ms_15, ms_16, ms_21, ms_22, ms_23, ms_24, ms_28, ms_36, ms_37, ms_38, st_at, st_ne, st_st, st_swap, l0, l1, l2, l3, l4, l5, hm, hSg, b1, b2, e, -List.filter_filter, -List.getElem?_map, -List.getD_eq_getElem?_getD]
theorem m110 (d : Nat) (hN : 53 ≤ N) (hm : w 27 = .inr (8, mF m)) (hSg : w 28 = cI 0 Sg) (s1 : Sg.length = 1320) (hBe : w 29 = cI 0 Be) (s2 : Be.length = 210) (hMa : w 30 = cI 0 Ma) (s3 : Ma.length = 30) (hPl : w 45 = cI 0 Pl) (s4 : Pl.length = 160) (hr : ∀ i, 0 ≤ gZ Sg i ∧ gZ Sg i < 100000) (c to hg : Int) (c0 : 0 ≤ c) (c1_ : c < 30) (a0 : 0 ≤ gZ Ma c) (a1 : gZ Ma c ≤ 6) (n0 : 0 ≤ gZ Be (7 * c + gZ Ma c)) (n1 : gZ Be (7 * c + gZ Ma c) ≤ 44) (t0 : 0 ≤ to) (t1 : to ≤ 116) (g0 : 0 ≤ hg) (g1 : hg ≤ 26) :
    Xc (d + 1) 110 [.ref 30, .int (iZ c), .int (iZ to), .int (iZ hg)] (hp w N) (none, hp (uH w 45 (cI 0 (cpl to (fun k => shf hg (gZ Sg (44 * c + k))) (gZ Be (7 * c + gZ Ma c)).toNat 0 Pl))) N) := by
  refine Xc.of rfl (by simp [lg_sl, Value.category]) ?_ (hp_le (Nat.le_refl _) (fun j _ => by (simp only [uH]; repeat' split) <;> simp_all [x_c1, sZ_len, cpl_len, mF_len]))
  have hc : c1 (lv_args 0 [.ref 30, .int (iZ c), .int (iZ to), .int (iZ hg)]) := by simp [c1, lv_args, Value.category]
  have l0 : x_lk (lv_args 0 [.ref 30, .int (iZ c), .int (iZ to), .int (iZ hg)]) 0 = some (.ref 30) := rfl
  have l1 : x_lk (lv_args 0 [.ref 30, .int (iZ c), .int (iZ to), .int (iZ hg)]) 1 = some (.int (iZ c)) := rfl
  have l2 : x_lk (lv_args 0 [.ref 30, .int (iZ c), .int (iZ to), .int (iZ hg)]) 2 = some (.int (iZ to)) := rfl
  have l3 : x_lk (lv_args 0 [.ref 30, .int (iZ c), .int (iZ to), .int (iZ hg)]) 3 = some (.int (iZ hg)) := rfl
  generalize lv_args 0 [.ref 30, .int (iZ c), .int (iZ to), .int (iZ hg)] = lv at hc l0 l1 l2 l3
  have C1 := c1_st (i := 4) (v := .int (iZ (gZ Be (7 * c + gZ Ma c)))) rfl hc
  have C2 := c1_st (i := 5) (v := .int (iZ 0)) rfl C1
  have k3 := l110 d hN hm hSg s1 hr c to hg (gZ Be (7 * c + gZ Ma c)) c0 c1_ t0 (by omega) g0 g1 n1 (gZ Be (7 * c + gZ Ma c)).toNat 0 Pl _ s4 (by omega) (by omega) C2 (by rw [lk_s C1, lk_s hc]; exact l0) (by rw [lk_s C1, lk_s hc]; exact l1) (by rw [lk_s C1, lk_s hc]; exact l2) (by rw [lk_s C1, lk_s hc]; exact l3) (by rw [lk_s C1, lk_s hc]; rfl) (by rw [lk_s C1]; rfl)
  rw [uH_self hPl] at k3
  refine Gx.run 60 Cs.tt (fun C _ => ?_) k3
  simp (disch := first | (refine c1_id ?_; assumption) | (refine c1_st rfl ?_; repeat (first | assumption | refine c1_st rfl ?_)) | omega) [nx_l, nx_r, nx_n, x_st, x_push, x_bin, x_div, x_un, x_dup, x_pop, x_dup2, x_goto, x_ifeq, x_ifne, x_iflt, x_ifge, x_ifgt, x_ifle, x_iceq, x_icne, x_iclt, x_icge, x_icgt, x_icle, x_ifnull, x_ifnonnull, x_ldi, x_lda, x_sti, x_sta, x_iinc, x_gf, x_pf, x_ald, x_ast, x_aln, x_len, x_cl_, x_cv, x_cs, x_rc, x_r0, x_isT, x_oi, x_rv, x_ri, x_ra, Value.category, t110_0, t110_1, t110_4, t110_6, t110_7, t110_8, t110_9, t110_12, t110_13, t110_14, t110_15, t110_16, t110_18, t110_19, t110_21, t110_23, t110_25, t110_28, t110_29, t110_32, t110_34, t110_35, t110_36, t110_38, t110_39, t110_40, t110_42, t110_43, t110_46, t110_47, t110_49, t110_50, t110_52, t110_54, t110_57, t110_59, t110_60, t110_61, t110_64, t110_66, t110_67, t110_70, t110_73, lk_s, hp_get, hp_set, uH_at, uH_ne, uH_upd, uH_swap, iZ_add, iZ_sub, iZ_mul, iZ_neg, iZ_lt, iZ_le, iZ_eq, iZ_div, iZ_of, ix_Z, gZ_map, gZ_mapI, gZ_map', le_0, le_s, sZ_map, sZ_len, bZ_0, bZ_inj, bZ_t, bZ_f, nr_i, nr_0, nr_1, nr_b, ft_i, ft_b, ft_0, ft_1, zl_0, zl_1, zl_7, zl_44, zl_99, mF_len, mg_0, mg_1, mg_2, mg_3, mg_4, mg_5, mg_6, mg_7, mg_8, mg_9, mg_10, mg_11, mg_12, mg_13, mg_14, mg_15, mg_16, mg_17, mg_18, mg_19, mg_20, mg_21, mg_22, mg_23, mg_24, mg_25, mg_26, mg_27, mg_28, mg_29, mg_30, mg_31, mg_32, mg_33, mg_34, mg_35, mg_36, mg_37, mg_38, ms_0, ms_1, ms_2, ms_13, ms_14, ms_15, ms_16, ms_21, ms_22, ms_23, ms_24, ms_28, ms_36, ms_37, ms_38, st_at, st_ne, st_st, st_swap, l0, l1, l2, l3, hm, hBe, hMa, -List.filter_filter, -List.getElem?_map, -List.getD_eq_getElem?_getD]
theorem l129 (d : Nat) (hN : 53 ≤ N) (hm : w 27 = .inr (8, mF m)) (hS : w 45 = cI 0 S) (s1 : S.length = 160) (hr : ∀ i, 0 ≤ gZ S i ∧ gZ S i < 100000) (a b n : Int) (a0 : 0 ≤ a) (b0 : 0 ≤ b) (a1 : a + n ≤ 160) (b1 : b + n ≤ 160) : ∀ (r : Nat) (k : Int) (lv : xL), k + r = n → 0 ≤ k → c1 lv → x_lk lv 0 = some (.ref 30) → x_lk lv 1 = some (.int (iZ a)) → x_lk lv 2 = some (.int (iZ b)) → x_lk lv 3 = some (.int (iZ 1)) → x_lk lv 4 = some (.int (iZ n)) → x_lk lv 5 = some (.int (iZ k)) →
    Gx q_k129 d 14 (lv, [], hp w N) (some (.int (iZ (bZ (ssZ S (a + k) (b + k) r)))), hp w N) := by
  intro r
  induction r with
  | zero =>
    intro k lv hk k0 hc l0 l1 l2 l3 l4 l5
    refine Gx.fin 20 Cs.tt (fun C _ => ?_)
    have q1 : n ≤ k := by omega
    have q : ssZ S (a + k) (b + k) 0 = true := rfl
    simp (disch := first | (refine c1_id ?_; assumption) | (refine c1_st rfl ?_; repeat (first | assumption | refine c1_st rfl ?_)) | omega) [nx_l, nx_r, nx_n, x_st, x_push, x_bin, x_div, x_un, x_dup, x_pop, x_dup2, x_goto, x_ifeq, x_ifne, x_iflt, x_ifge, x_ifgt, x_ifle, x_iceq, x_icne, x_iclt, x_icge, x_icgt, x_icle, x_ifnull, x_ifnonnull, x_ldi, x_lda, x_sti, x_sta, x_iinc, x_gf, x_pf, x_ald, x_ast, x_aln, x_len, x_cl_, x_cv, x_cs, x_rc, x_r0, x_isT, x_oi, x_rv, x_ri, x_ra, Value.category, t129_0, t129_1, t129_2, t129_3, t129_4, t129_7, t129_8, t129_9, t129_11, t129_12, t129_14, t129_16, t129_18, t129_21, t129_22, t129_25, t129_26, t129_29, t129_30, t129_32, t129_33, t129_34, t129_35, t129_38, t129_39, t129_41, t129_42, t129_43, t129_46, t129_47, t129_50, t129_51, t129_52, t129_55, t129_58, t129_59, lk_s, hp_get, hp_set, uH_at, uH_ne, uH_upd, uH_swap, iZ_add, iZ_sub, iZ_mul, iZ_neg, iZ_lt, iZ_le, iZ_eq, iZ_div, iZ_of, ix_Z, gZ_map, gZ_mapI, gZ_map', le_0, le_s, sZ_map, sZ_len, bZ_0, bZ_inj, bZ_t, bZ_f, nr_i, nr_0, nr_1, nr_b, ft_i, ft_b, ft_0, ft_1, zl_0, zl_1, mF_len, mg_0, mg_1, mg_2, mg_3, mg_4, mg_5, mg_6, mg_7, mg_8, mg_9, mg_10, mg_11, mg_12, mg_13, mg_14, mg_15, mg_16, mg_17, mg_18, mg_19, mg_20, mg_21, mg_22, mg_23, mg_24, mg_25, mg_26, mg_27, mg_28, mg_29, mg_30, mg_31, mg_32, mg_33, mg_34, mg_35, mg_36, mg_37, mg_38, ms_0, ms_1, ms_2, ms_13, ms_14, ms_15, ms_16, ms_21, ms_22, ms_23, ms_24, ms_28, ms_36, ms_37, ms_38, st_at, st_ne, st_st, st_swap, l0, l3, l4, l5, q1, q, -List.filter_filter, -List.getElem?_map, -List.getD_eq_getElem?_getD]
  | succ r ih =>
    intro k lv hk k0 hc l0 l1 l2 l3 l4 l5
    have q1 : ¬ n ≤ k := by omega
    have z1 := hr (a + k)
    have z2 := hr (b + k)
    by_cases h : gZ S (a + k) = gZ S (b + k)
    · have q : ssZ S (a + k) (b + k) (r + 1) = ssZ S (a + (k + 1)) (b + (k + 1)) r := by
        show (decide (gZ S (a + k) = gZ S (b + k)) && ssZ S (a + k + 1) (b + k + 1) r) = _
        rw [decide_eq_true h, Int.add_assoc, Int.add_assoc]
        rfl
      rw [q]
      have C1 := c1_st (i := 3) (v := .int (iZ 1)) rfl hc
      have C2 := c1_st (i := 5) (v := .int (iZ (k + 1))) rfl C1
      have k3 := ih (k + 1) _ (by omega) (by omega) C2 (by rw [lk_s C1, lk_s hc]; exact l0) (by rw [lk_s C1, lk_s hc]; exact l1) (by rw [lk_s C1, lk_s hc]; exact l2) (by rw [lk_s C1, lk_s hc]; rfl) (by rw [lk_s C1, lk_s hc]; exact l4) (by rw [lk_s C1]; rfl)
      refine Gx.run 60 Cs.tt (fun C _ => ?_) k3
      simp (disch := first | (refine c1_id ?_; assumption) | (refine c1_st rfl ?_; repeat (first | assumption | refine c1_st rfl ?_)) | omega) [nx_l, nx_r, nx_n, x_st, x_push, x_bin, x_div, x_un, x_dup, x_pop, x_dup2, x_goto, x_ifeq, x_ifne, x_iflt, x_ifge, x_ifgt, x_ifle, x_iceq, x_icne, x_iclt, x_icge, x_icgt, x_icle, x_ifnull, x_ifnonnull, x_ldi, x_lda, x_sti, x_sta, x_iinc, x_gf, x_pf, x_ald, x_ast, x_aln, x_len, x_cl_, x_cv, x_cs, x_rc, x_r0, x_isT, x_oi, x_rv, x_ri, x_ra, Value.category, t129_0, t129_1, t129_2, t129_3, t129_4, t129_7, t129_8, t129_9, t129_11, t129_12, t129_14, t129_16, t129_18, t129_21, t129_22, t129_25, t129_26, t129_29, t129_30, t129_32, t129_33, t129_34, t129_35, t129_38, t129_39, t129_41, t129_42, t129_43, t129_46, t129_47, t129_50, t129_51, t129_52, t129_55, t129_58, t129_59, lk_s, hp_get, hp_set, uH_at, uH_ne, uH_upd, uH_swap, iZ_add, iZ_sub, iZ_mul, iZ_neg, iZ_lt, iZ_le, iZ_eq, iZ_div, iZ_of, ix_Z, gZ_map, gZ_mapI, gZ_map', le_0, le_s, sZ_map, sZ_len, bZ_0, bZ_inj, bZ_t, bZ_f, nr_i, nr_0, nr_1, nr_b, ft_i, ft_b, ft_0, ft_1, zl_0, zl_1, mF_len, mg_0, mg_1, mg_2, mg_3, mg_4, mg_5, mg_6, mg_7, mg_8, mg_9, mg_10, mg_11, mg_12, mg_13, mg_14, mg_15, mg_16, mg_17, mg_18, mg_19, mg_20, mg_21, mg_22, mg_23, mg_24, mg_25, mg_26, mg_27, mg_28, mg_29, mg_30, mg_31, mg_32, mg_33, mg_34, mg_35, mg_36, mg_37, mg_38, ms_0, ms_1, ms_2, ms_13, ms_14, ms_15, ms_16, ms_21, ms_22, ms_23, ms_24, ms_28, ms_36, ms_37, ms_38, st_at, st_ne, st_st, st_swap, l0, l1, l2, l3, l4, l5, hm, hS, q1, h, -List.filter_filter, -List.getElem?_map, -List.getD_eq_getElem?_getD]
    · have q : ssZ S (a + k) (b + k) (r + 1) = false := by
        show (decide (gZ S (a + k) = gZ S (b + k)) && ssZ S (a + k + 1) (b + k + 1) r) = _
        rw [decide_eq_false h]
        rfl
      rw [q]
      refine Gx.fin 60 Cs.tt (fun C _ => ?_)
      by_cases q2 : n ≤ k + 1
      · simp (disch := first | (refine c1_id ?_; assumption) | (refine c1_st rfl ?_; repeat (first | assumption | refine c1_st rfl ?_)) | omega) [nx_l, nx_r, nx_n, x_st, x_push, x_bin, x_div, x_un, x_dup, x_pop, x_dup2, x_goto, x_ifeq, x_ifne, x_iflt, x_ifge, x_ifgt, x_ifle, x_iceq, x_icne, x_iclt, x_icge, x_icgt, x_icle, x_ifnull, x_ifnonnull, x_ldi, x_lda, x_sti, x_sta, x_iinc, x_gf, x_pf, x_ald, x_ast, x_aln, x_len, x_cl_, x_cv, x_cs, x_rc, x_r0, x_isT, x_oi, x_rv, x_ri, x_ra, Value.category, t129_0, t129_1, t129_2, t129_3, t129_4, t129_7, t129_8, t129_9, t129_11, t129_12, t129_14, t129_16, t129_18, t129_21, t129_22, t129_25, t129_26, t129_29, t129_30, t129_32, t129_33, t129_34, t129_35, t129_38, t129_39, t129_41, t129_42, t129_43, t129_46, t129_47, t129_50, t129_51, t129_52, t129_55, t129_58, t129_59, lk_s, hp_get, hp_set, uH_at, uH_ne, uH_upd, uH_swap, iZ_add, iZ_sub, iZ_mul, iZ_neg, iZ_lt, iZ_le, iZ_eq, iZ_div, iZ_of, ix_Z, gZ_map, gZ_mapI, gZ_map', le_0, le_s, sZ_map, sZ_len, bZ_0, bZ_inj, bZ_t, bZ_f, nr_i, nr_0, nr_1, nr_b, ft_i, ft_b, ft_0, ft_1, zl_0, zl_1, mF_len, mg_0, mg_1, mg_2, mg_3, mg_4, mg_5, mg_6, mg_7, mg_8, mg_9, mg_10, mg_11, mg_12, mg_13, mg_14, mg_15, mg_16, mg_17, mg_18, mg_19, mg_20, mg_21, mg_22, mg_23, mg_24, mg_25, mg_26, mg_27, mg_28, mg_29, mg_30, mg_31, mg_32, mg_33, mg_34, mg_35, mg_36, mg_37, mg_38, ms_0, ms_1, ms_2, ms_13, ms_14, ms_15, ms_16, ms_21, ms_22, ms_23, ms_24, ms_28, ms_36, ms_37, ms_38, st_at, st_ne, st_st, st_swap, l0, l1, l2, l3, l4, l5, hm, hS, q1, q2, h, -List.filter_filter, -List.getElem?_map, -List.getD_eq_getElem?_getD]
      · simp (disch := first | (refine c1_id ?_; assumption) | (refine c1_st rfl ?_; repeat (first | assumption | refine c1_st rfl ?_)) | omega) [nx_l, nx_r, nx_n, x_st, x_push, x_bin, x_div, x_un, x_dup, x_pop, x_dup2, x_goto, x_ifeq, x_ifne, x_iflt, x_ifge, x_ifgt, x_ifle, x_iceq, x_icne, x_iclt, x_icge, x_icgt, x_icle, x_ifnull, x_ifnonnull, x_ldi, x_lda, x_sti, x_sta, x_iinc, x_gf, x_pf, x_ald, x_ast, x_aln, x_len, x_cl_, x_cv, x_cs, x_rc, x_r0, x_isT, x_oi, x_rv, x_ri, x_ra, Value.category, t129_0, t129_1, t129_2, t129_3, t129_4, t129_7, t129_8, t129_9, t129_11, t129_12, t129_14, t129_16, t129_18, t129_21, t129_22, t129_25, t129_26, t129_29, t129_30, t129_32, t129_33, t129_34, t129_35, t129_38, t129_39, t129_41, t129_42, t129_43, t129_46, t129_47, t129_50, t129_51, t129_52, t129_55, t129_58, t129_59, lk_s, hp_get, hp_set, uH_at, uH_ne, uH_upd, uH_swap, iZ_add, iZ_sub, iZ_mul, iZ_neg, iZ_lt, iZ_le, iZ_eq, iZ_div, iZ_of, ix_Z, gZ_map, gZ_mapI, gZ_map', le_0, le_s, sZ_map, sZ_len, bZ_0, bZ_inj, bZ_t, bZ_f, nr_i, nr_0, nr_1, nr_b, ft_i, ft_b, ft_0, ft_1, zl_0, zl_1, mF_len, mg_0, mg_1, mg_2, mg_3, mg_4, mg_5, mg_6, mg_7, mg_8, mg_9, mg_10, mg_11, mg_12, mg_13, mg_14, mg_15, mg_16, mg_17, mg_18, mg_19, mg_20, mg_21, mg_22, mg_23, mg_24, mg_25, mg_26, mg_27, mg_28, mg_29, mg_30, mg_31, mg_32, mg_33, mg_34, mg_35, mg_36, mg_37, mg_38, ms_0, ms_1, ms_2, ms_13, ms_14, ms_15, ms_16, ms_21, ms_22, ms_23, ms_24, ms_28, ms_36, ms_37, ms_38, st_at, st_ne, st_st, st_swap, l0, l1, l2, l3, l4, l5, hm, hS, q1, q2, h, -List.filter_filter, -List.getElem?_map, -List.getD_eq_getElem?_getD]
theorem m129 (d : Nat) (hN : 53 ≤ N) (hm : w 27 = .inr (8, mF m)) (hS : w 45 = cI 0 S) (s1 : S.length = 160) (hr : ∀ i, 0 ≤ gZ S i ∧ gZ S i < 100000) (a b : Int) (a0 : 0 ≤ a) (b0 : 0 ≤ b) (aT : Ts 1 (tm S a.toNat)) (a1 : a + (tm S a.toNat).length ≤ 160) (b1 : b + (tm S a.toNat).length ≤ 160) :
    Xc (d + 3) 129 [.ref 30, .int (iZ a), .int (iZ b)] (hp w N) (some (.int (iZ (bZ (ssZ S a b (tm S a.toNat).length)))), hp w N) := by
  have mm := m109 d (w := w) hN hm hS (by omega) hr a a0 aT
  refine Xc.of rfl (by simp [lg_sl, Value.category]) ?_ (x_le.rf)
  have hc : c1 (lv_args 0 [.ref 30, .int (iZ a), .int (iZ b)]) := by simp [c1, lv_args, Value.category]
  have l0 : x_lk (lv_args 0 [.ref 30, .int (iZ a), .int (iZ b)]) 0 = some (.ref 30) := rfl
  have l1 : x_lk (lv_args 0 [.ref 30, .int (iZ a), .int (iZ b)]) 1 = some (.int (iZ a)) := rfl
  have l2 : x_lk (lv_args 0 [.ref 30, .int (iZ a), .int (iZ b)]) 2 = some (.int (iZ b)) := rfl
  generalize lv_args 0 [.ref 30, .int (iZ a), .int (iZ b)] = lv at hc l0 l1 l2
  have C1 := c1_st (i := 3) (v := .int (iZ 1)) rfl hc
  have C2 := c1_st (i := 4) (v := .int (iZ ((tm S a.toNat).length : Int))) rfl C1
  have C3 := c1_st (i := 5) (v := .int (iZ 0)) rfl C2
  have k3 := l129 (d + 2) hN hm hS s1 hr a b ((tm S a.toNat).length : Int) a0 b0 a1 b1 (tm S a.toNat).length 0 _ (by omega) (by omega) C3 (by rw [lk_s C2, lk_s C1, lk_s hc]; exact l0) (by rw [lk_s C2, lk_s C1, lk_s hc]; exact l1) (by rw [lk_s C2, lk_s C1, lk_s hc]; exact l2) (by rw [lk_s C2, lk_s C1, lk_s hc]; rfl) (by rw [lk_s C2, lk_s C1]; rfl) (by rw [lk_s C2]; rfl)
  rw [Int.add_zero, Int.add_zero] at k3
  refine Gx.run 60 mm (fun C mm => ?_) k3
  have e : a + ((tm S a.toNat).length : Int) - a = ((tm S a.toNat).length : Int) := by omega
  simp (disch := first | (refine c1_id ?_; assumption) | (refine c1_st rfl ?_; repeat (first | assumption | refine c1_st rfl ?_)) | omega) [nx_l, nx_r, nx_n, x_st, x_push, x_bin, x_div, x_un, x_dup, x_pop, x_dup2, x_goto, x_ifeq, x_ifne, x_iflt, x_ifge, x_ifgt, x_ifle, x_iceq, x_icne, x_iclt, x_icge, x_icgt, x_icle, x_ifnull, x_ifnonnull, x_ldi, x_lda, x_sti, x_sta, x_iinc, x_gf, x_pf, x_ald, x_ast, x_aln, x_len, x_cl_, x_cv, x_cs, x_rc, x_r0, x_isT, x_oi, x_rv, x_ri, x_ra, Value.category, t129_0, t129_1, t129_2, t129_3, t129_4, t129_7, t129_8, t129_9, t129_11, t129_12, t129_14, t129_16, t129_18, t129_21, t129_22, t129_25, t129_26, t129_29, t129_30, t129_32, t129_33, t129_34, t129_35, t129_38, t129_39, t129_41, t129_42, t129_43, t129_46, t129_47, t129_50, t129_51, t129_52, t129_55, t129_58, t129_59, lk_s, hp_get, hp_set, uH_at, uH_ne, uH_upd, uH_swap, iZ_add, iZ_sub, iZ_mul, iZ_neg, iZ_lt, iZ_le, iZ_eq, iZ_div, iZ_of, ix_Z, gZ_map, gZ_mapI, gZ_map', le_0, le_s, sZ_map, sZ_len, bZ_0, bZ_inj, bZ_t, bZ_f, nr_i, nr_0, nr_1, nr_b, ft_i, ft_b, ft_0, ft_1, zl_0, zl_1, mF_len, mg_0, mg_1, mg_2, mg_3, mg_4, mg_5, mg_6, mg_7, mg_8, mg_9, mg_10, mg_11, mg_12, mg_13, mg_14, mg_15, mg_16, mg_17, mg_18, mg_19, mg_20, mg_21, mg_22, mg_23, mg_24, mg_25, mg_26, mg_27, mg_28, mg_29, mg_30, mg_31, mg_32, mg_33, mg_34, mg_35, mg_36, mg_37, mg_38, ms_0, ms_1, ms_2, ms_13, ms_14, ms_15, ms_16, ms_21, ms_22, ms_23, ms_24, ms_28, ms_36, ms_37, ms_38, st_at, st_ne, st_st, st_swap, l0, l1, l2, mm, hm, e, -List.filter_filter, -List.getElem?_map, -List.getD_eq_getElem?_getD]
theorem l118 (d : Nat) (hN : 53 ≤ N) (hm : w 27 = .inr (8, mF m)) (hS : w 45 = cI 0 S) (s1 : S.length = 160) (hr : ∀ i, 0 ≤ gZ S i ∧ gZ S i < 100000) (a b p : Int) (a0 : 0 ≤ a) (b0 : 0 ≤ b) (b1 : b ≤ 160) (p0 : -2147483648 ≤ p) (p1 : p < 2147483648) : ∀ (r : Nat) (k : Int) (lv : xL), b - (a + 1 + k) ≤ r → 0 ≤ k → k ≤ 1000 → (0 ≤ p → k ≤ p) → c1 lv → x_lk lv 0 = some (.ref 30) → x_lk lv 2 = some (.int (iZ b)) → x_lk lv 3 = some (.int (iZ p)) → x_lk lv 4 = some (.int (iZ k)) → x_lk lv 5 = some (.int (iZ (a + 1 + k))) → a + 1 + k ≤ 1000 →
    Gx q_k118 d 8 (lv, [], hp w N) (some (.int (iZ (if 0 ≤ p ∧ a + 1 + p < b ∧ 99 ≤ gZ S (a + 1 + p) then a + 1 + p else -1))), hp w N) := by
  intro r
  induction r with
  | zero =>
    intro k lv hk k0 k9 hp0 hc l0 l2 l3 l4 l5 h9
    rw [if_neg (by omega)]
    refine Gx.fin 20 Cs.tt (fun C _ => ?_)
    have q1 : b ≤ a + 1 + k := by omega
    simp (disch := first | (refine c1_id ?_; assumption) | (refine c1_st rfl ?_; repeat (first | assumption | refine c1_st rfl ?_)) | omega) [nx_l, nx_r, nx_n, x_st, x_push, x_bin, x_div, x_un, x_dup, x_pop, x_dup2, x_goto, x_ifeq, x_ifne, x_iflt, x_ifge, x_ifgt, x_ifle, x_iceq, x_icne, x_iclt, x_icge, x_icgt, x_icle, x_ifnull, x_ifnonnull, x_ldi, x_lda, x_sti, x_sta, x_iinc, x_gf, x_pf, x_ald, x_ast, x_aln, x_len, x_cl_, x_cv, x_cs, x_rc, x_r0, x_isT, x_oi, x_rv, x_ri, x_ra, Value.category, t118_0, t118_1, t118_3, t118_4, t118_5, t118_6, t118_8, t118_10, t118_11, t118_14, t118_16, t118_17, t118_20, t118_21, t118_24, t118_26, t118_27, t118_29, t118_32, t118_33, t118_36, t118_38, t118_39, t118_42, t118_45, t118_48, t118_49, lk_s, hp_get, hp_set, uH_at, uH_ne, uH_upd, uH_swap, iZ_add, iZ_sub, iZ_mul, iZ_neg, iZ_lt, iZ_le, iZ_eq, iZ_div, iZ_of, ix_Z, gZ_map, gZ_mapI, gZ_map', le_0, le_s, sZ_map, sZ_len, bZ_0, bZ_inj, bZ_t, bZ_f, nr_i, nr_0, nr_1, nr_b, ft_i, ft_b, ft_0, ft_1, zl_0, zl_1, zl_99, mF_len, mg_0, mg_1, mg_2, mg_3, mg_4, mg_5, mg_6, mg_7, mg_8, mg_9, mg_10, mg_11, mg_12, mg_13, mg_14, mg_15, mg_16, mg_17, mg_18, mg_19, mg_20, mg_21, mg_22, mg_23, mg_24, mg_25, mg_26, mg_27, mg_28, mg_29, mg_30, mg_31, mg_32, mg_33, mg_34, mg_35, mg_36, mg_37, mg_38, ms_0, ms_1, ms_2, ms_13, ms_14, ms_15, ms_16, ms_21, ms_22, ms_23, ms_24, ms_28, ms_36, ms_37, ms_38, st_at, st_ne, st_st, st_swap, l0, l2, l5, q1, -List.filter_filter, -List.getElem?_map, -List.getD_eq_getElem?_getD]
  | succ r ih =>
    intro k lv hk k0 k9 hp0 hc l0 l2 l3 l4 l5 h9
    by_cases q1 : b ≤ a + 1 + k
    · rw [if_neg (by omega)]
      refine Gx.fin 20 Cs.tt (fun C _ => ?_)
      simp (disch := first | (refine c1_id ?_; assumption) | (refine c1_st rfl ?_; repeat (first | assumption | refine c1_st rfl ?_)) | omega) [nx_l, nx_r, nx_n, x_st, x_push, x_bin, x_div, x_un, x_dup, x_pop, x_dup2, x_goto, x_ifeq, x_ifne, x_iflt, x_ifge, x_ifgt, x_ifle, x_iceq, x_icne, x_iclt, x_icge, x_icgt, x_icle, x_ifnull, x_ifnonnull, x_ldi, x_lda, x_sti, x_sta, x_iinc, x_gf, x_pf, x_ald, x_ast, x_aln, x_len, x_cl_, x_cv, x_cs, x_rc, x_r0, x_isT, x_oi, x_rv, x_ri, x_ra, Value.category, t118_0, t118_1, t118_3, t118_4, t118_5, t118_6, t118_8, t118_10, t118_11, t118_14, t118_16, t118_17, t118_20, t118_21, t118_24, t118_26, t118_27, t118_29, t118_32, t118_33, t118_36, t118_38, t118_39, t118_42, t118_45, t118_48, t118_49, lk_s, hp_get, hp_set, uH_at, uH_ne, uH_upd, uH_swap, iZ_add, iZ_sub, iZ_mul, iZ_neg, iZ_lt, iZ_le, iZ_eq, iZ_div, iZ_of, ix_Z, gZ_map, gZ_mapI, gZ_map', le_0, le_s, sZ_map, sZ_len, bZ_0, bZ_inj, bZ_t, bZ_f, nr_i, nr_0, nr_1, nr_b, ft_i, ft_b, ft_0, ft_1, zl_0, zl_1, zl_99, mF_len, mg_0, mg_1, mg_2, mg_3, mg_4, mg_5, mg_6, mg_7, mg_8, mg_9, mg_10, mg_11, mg_12, mg_13, mg_14, mg_15, mg_16, mg_17, mg_18, mg_19, mg_20, mg_21, mg_22, mg_23, mg_24, mg_25, mg_26, mg_27, mg_28, mg_29, mg_30, mg_31, mg_32, mg_33, mg_34, mg_35, mg_36, mg_37, mg_38, ms_0, ms_1, ms_2, ms_13, ms_14, ms_15, ms_16, ms_21, ms_22, ms_23, ms_24, ms_28, ms_36, ms_37, ms_38, st_at, st_ne, st_st, st_swap, l0, l2, l5, q1, -List.filter_filter, -List.getElem?_map, -List.getD_eq_getElem?_getD]
    · by_cases q2 : k = p
      · subst q2
        have z := hr (a + 1 + k)
        refine Gx.fin 40 Cs.tt (fun C _ => ?_)
        by_cases q3 : 99 ≤ gZ S (a + 1 + k)
        · rw [if_pos (by omega)]
          simp (disch := first | (refine c1_id ?_; assumption) | (refine c1_st rfl ?_; repeat (first | assumption | refine c1_st rfl ?_)) | omega) [nx_l, nx_r, nx_n, x_st, x_push, x_bin, x_div, x_un, x_dup, x_pop, x_dup2, x_goto, x_ifeq, x_ifne, x_iflt, x_ifge, x_ifgt, x_ifle, x_iceq, x_icne, x_iclt, x_icge, x_icgt, x_icle, x_ifnull, x_ifnonnull, x_ldi, x_lda, x_sti, x_sta, x_iinc, x_gf, x_pf, x_ald, x_ast, x_aln, x_len, x_cl_, x_cv, x_cs, x_rc, x_r0, x_isT, x_oi, x_rv, x_ri, x_ra, Value.category, t118_0, t118_1, t118_3, t118_4, t118_5, t118_6, t118_8, t118_10, t118_11, t118_14, t118_16, t118_17, t118_20, t118_21, t118_24, t118_26, t118_27, t118_29, t118_32, t118_33, t118_36, t118_38, t118_39, t118_42, t118_45, t118_48, t118_49, lk_s, hp_get, hp_set, uH_at, uH_ne, uH_upd, uH_swap, iZ_add, iZ_sub, iZ_mul, iZ_neg, iZ_lt, iZ_le, iZ_eq, iZ_div, iZ_of, ix_Z, gZ_map, gZ_mapI, gZ_map', le_0, le_s, sZ_map, sZ_len, bZ_0, bZ_inj, bZ_t, bZ_f, nr_i, nr_0, nr_1, nr_b, ft_i, ft_b, ft_0, ft_1, zl_0, zl_1, zl_99, mF_len, mg_0, mg_1, mg_2, mg_3, mg_4, mg_5, mg_6, mg_7, mg_8, mg_9, mg_10, mg_11, mg_12, mg_13, mg_14, mg_15, mg_16, mg_17, mg_18, mg_19, mg_20, mg_21, mg_22, mg_23, mg_24, mg_25, mg_26, mg_27, mg_28, mg_29, mg_30, mg_31, mg_32, mg_33, mg_34, mg_35, mg_36, mg_37, mg_38, ms_0, ms_1, ms_2, ms_13, ms_14, ms_15, ms_16, ms_21, ms_22, ms_23, ms_24, ms_28, ms_36, ms_37, ms_38, st_at, st_ne, st_st, st_swap, l0, l2, l3, l4, l5, hm, hS, q1, q3, -List.filter_filter, -List.getElem?_map, -List.getD_eq_getElem?_getD]
        · rw [if_neg (by omega)]
          simp (disch := first | (refine c1_id ?_; assumption) | (refine c1_st rfl ?_; repeat (first | assumption | refine c1_st rfl ?_)) | omega) [nx_l, nx_r, nx_n, x_st, x_push, x_bin, x_div, x_un, x_dup, x_pop, x_dup2, x_goto, x_ifeq, x_ifne, x_iflt, x_ifge, x_ifgt, x_ifle, x_iceq, x_icne, x_iclt, x_icge, x_icgt, x_icle, x_ifnull, x_ifnonnull, x_ldi, x_lda, x_sti, x_sta, x_iinc, x_gf, x_pf, x_ald, x_ast, x_aln, x_len, x_cl_, x_cv, x_cs, x_rc, x_r0, x_isT, x_oi, x_rv, x_ri, x_ra, Value.category, t118_0, t118_1, t118_3, t118_4, t118_5, t118_6, t118_8, t118_10, t118_11, t118_14, t118_16, t118_17, t118_20, t118_21, t118_24, t118_26, t118_27, t118_29, t118_32, t118_33, t118_36, t118_38, t118_39, t118_42, t118_45, t118_48, t118_49, lk_s, hp_get, hp_set, uH_at, uH_ne, uH_upd, uH_swap, iZ_add, iZ_sub, iZ_mul, iZ_neg, iZ_lt, iZ_le, iZ_eq, iZ_div, iZ_of, ix_Z, gZ_map, gZ_mapI, gZ_map', le_0, le_s, sZ_map, sZ_len, bZ_0, bZ_inj, bZ_t, bZ_f, nr_i, nr_0, nr_1, nr_b, ft_i, ft_b, ft_0, ft_1, zl_0, zl_1, zl_99, mF_len, mg_0, mg_1, mg_2, mg_3, mg_4, mg_5, mg_6, mg_7, mg_8, mg_9, mg_10, mg_11, mg_12, mg_13, mg_14, mg_15, mg_16, mg_17, mg_18, mg_19, mg_20, mg_21, mg_22, mg_23, mg_24, mg_25, mg_26, mg_27, mg_28, mg_29, mg_30, mg_31, mg_32, mg_33, mg_34, mg_35, mg_36, mg_37, mg_38, ms_0, ms_1, ms_2, ms_13, ms_14, ms_15, ms_16, ms_21, ms_22, ms_23, ms_24, ms_28, ms_36, ms_37, ms_38, st_at, st_ne, st_st, st_swap, l0, l2, l3, l4, l5, hm, hS, q1, q3, -List.filter_filter, -List.getElem?_map, -List.getD_eq_getElem?_getD]
      · have C1 := c1_st (i := 4) (v := .int (iZ (k + 1))) rfl hc
        have C2 := c1_st (i := 5) (v := .int (iZ (a + 1 + (k + 1)))) rfl C1
        have k3 := ih (k + 1) _ (by omega) (by omega) (by omega) (by omega) C2 (by rw [lk_s C1, lk_s hc]; exact l0) (by rw [lk_s C1, lk_s hc]; exact l2) (by rw [lk_s C1, lk_s hc]; exact l3) (by rw [lk_s C1, lk_s hc]; rfl) (by rw [lk_s C1]; rfl) (by omega)
        refine Gx.run 40 Cs.tt (fun C _ => ?_) k3
        have e : a + 1 + k + 1 = a + 1 + (k + 1) := by omega
        simp (disch := first | (refine c1_id ?_; assumption) | (refine c1_st rfl ?_; repeat (first | assumption | refine c1_st rfl ?_)) | omega) [nx_l, nx_r, nx_n, x_st, x_push, x_bin, x_div, x_un, x_dup, x_pop, x_dup2, x_goto, x_ifeq, x_ifne, x_iflt, x_ifge, x_ifgt, x_ifle, x_iceq, x_icne, x_iclt, x_icge, x_icgt, x_icle, x_ifnull, x_ifnonnull, x_ldi, x_lda, x_sti, x_sta, x_iinc, x_gf, x_pf, x_ald, x_ast, x_aln, x_len, x_cl_, x_cv, x_cs, x_rc, x_r0, x_isT, x_oi, x_rv, x_ri, x_ra, Value.category, t118_0, t118_1, t118_3, t118_4, t118_5, t118_6, t118_8, t118_10, t118_11, t118_14, t118_16, t118_17, t118_20, t118_21, t118_24, t118_26, t118_27, t118_29, t118_32, t118_33, t118_36, t118_38, t118_39, t118_42, t118_45, t118_48, t118_49, lk_s, hp_get, hp_set, uH_at, uH_ne, uH_upd, uH_swap, iZ_add, iZ_sub, iZ_mul, iZ_neg, iZ_lt, iZ_le, iZ_eq, iZ_div, iZ_of, ix_Z, gZ_map, gZ_mapI, gZ_map', le_0, le_s, sZ_map, sZ_len, bZ_0, bZ_inj, bZ_t, bZ_f, nr_i, nr_0, nr_1, nr_b, ft_i, ft_b, ft_0, ft_1, zl_0, zl_1, zl_99, mF_len, mg_0, mg_1, mg_2, mg_3, mg_4, mg_5, mg_6, mg_7, mg_8, mg_9, mg_10, mg_11, mg_12, mg_13, mg_14, mg_15, mg_16, mg_17, mg_18, mg_19, mg_20, mg_21, mg_22, mg_23, mg_24, mg_25, mg_26, mg_27, mg_28, mg_29, mg_30, mg_31, mg_32, mg_33, mg_34, mg_35, mg_36, mg_37, mg_38, ms_0, ms_1, ms_2, ms_13, ms_14, ms_15, ms_16, ms_21, ms_22, ms_23, ms_24, ms_28, ms_36, ms_37, ms_38, st_at, st_ne, st_st, st_swap, l0, l2, l3, l4, l5, q1, q2, e, -List.filter_filter, -List.getElem?_map, -List.getD_eq_getElem?_getD]
theorem m118 (d : Nat) (hN : 53 ≤ N) (hm : w 27 = .inr (8, mF m)) (hS : w 45 = cI 0 S) (s1 : S.length = 160) (hr : ∀ i, 0 ≤ gZ S i ∧ gZ S i < 100000) (a b p : Int) (a0 : 0 ≤ a) (a9 : a ≤ 160) (b0 : 0 ≤ b) (b1 : b ≤ 160) (p0 : -2147483648 ≤ p) (p1 : p < 2147483648) :
    Xc (d + 1) 118 [.ref 30, .int (iZ a), .int (iZ b), .int (iZ p)] (hp w N) (some (.int (iZ (if 0 ≤ p ∧ a + 1 + p < b ∧ 99 ≤ gZ S (a + 1 + p) then a + 1 + p else -1))), hp w N) := by
  refine Xc.of rfl (by simp [lg_sl, Value.category]) ?_ (x_le.rf)
  have hc : c1 (lv_args 0 [.ref 30, .int (iZ a), .int (iZ b), .int (iZ p)]) := by simp [c1, lv_args, Value.category]
  have l0 : x_lk (lv_args 0 [.ref 30, .int (iZ a), .int (iZ b), .int (iZ p)]) 0 = some (.ref 30) := rfl
  have l1 : x_lk (lv_args 0 [.ref 30, .int (iZ a), .int (iZ b), .int (iZ p)]) 1 = some (.int (iZ a)) := rfl
  have l2 : x_lk (lv_args 0 [.ref 30, .int (iZ a), .int (iZ b), .int (iZ p)]) 2 = some (.int (iZ b)) := rfl
  have l3 : x_lk (lv_args 0 [.ref 30, .int (iZ a), .int (iZ b), .int (iZ p)]) 3 = some (.int (iZ p)) := rfl
  generalize lv_args 0 [.ref 30, .int (iZ a), .int (iZ b), .int (iZ p)] = lv at hc l0 l1 l2 l3
  have C1 := c1_st (i := 4) (v := .int (iZ 0)) rfl hc
  have C2 := c1_st (i := 5) (v := .int (iZ (a + 1 + 0))) rfl C1
  have k3 := l118 d hN hm hS s1 hr a b p a0 b0 b1 p0 p1 160 0 _ (by omega) (by omega) (by omega) (fun _ => by omega) C2 (by rw [lk_s C1, lk_s hc]; exact l0) (by rw [lk_s C1, lk_s hc]; exact l2) (by rw [lk_s C1, lk_s hc]; exact l3) (by rw [lk_s C1, lk_s hc]; rfl) (by rw [lk_s C1]; rfl) (by omega)
  refine Gx.run 20 Cs.tt (fun C _ => ?_) k3
  have e : a + 1 + 0 = a + 1 := by omega
  simp (disch := first | (refine c1_id ?_; assumption) | (refine c1_st rfl ?_; repeat (first | assumption | refine c1_st rfl ?_)) | omega) [nx_l, nx_r, nx_n, x_st, x_push, x_bin, x_div, x_un, x_dup, x_pop, x_dup2, x_goto, x_ifeq, x_ifne, x_iflt, x_ifge, x_ifgt, x_ifle, x_iceq, x_icne, x_iclt, x_icge, x_icgt, x_icle, x_ifnull, x_ifnonnull, x_ldi, x_lda, x_sti, x_sta, x_iinc, x_gf, x_pf, x_ald, x_ast, x_aln, x_len, x_cl_, x_cv, x_cs, x_rc, x_r0, x_isT, x_oi, x_rv, x_ri, x_ra, Value.category, t118_0, t118_1, t118_3, t118_4, t118_5, t118_6, t118_8, t118_10, t118_11, t118_14, t118_16, t118_17, t118_20, t118_21, t118_24, t118_26, t118_27, t118_29, t118_32, t118_33, t118_36, t118_38, t118_39, t118_42, t118_45, t118_48, t118_49, lk_s, hp_get, hp_set, uH_at, uH_ne, uH_upd, uH_swap, iZ_add, iZ_sub, iZ_mul, iZ_neg, iZ_lt, iZ_le, iZ_eq, iZ_div, iZ_of, ix_Z, gZ_map, gZ_mapI, gZ_map', le_0, le_s, sZ_map, sZ_len, bZ_0, bZ_inj, bZ_t, bZ_f, nr_i, nr_0, nr_1, nr_b, ft_i, ft_b, ft_0, ft_1, zl_0, zl_1, zl_99, mF_len, mg_0, mg_1, mg_2, mg_3, mg_4, mg_5, mg_6, mg_7, mg_8, mg_9, mg_10, mg_11, mg_12, mg_13, mg_14, mg_15, mg_16, mg_17, mg_18, mg_19, mg_20, mg_21, mg_22, mg_23, mg_24, mg_25, mg_26, mg_27, mg_28, mg_29, mg_30, mg_31, mg_32, mg_33, mg_34, mg_35, mg_36, mg_37, mg_38, ms_0, ms_1, ms_2, ms_13, ms_14, ms_15, ms_16, ms_21, ms_22, ms_23, ms_24, ms_28, ms_36, ms_37, ms_38, st_at, st_ne, st_st, st_swap, l0, l1, l2, l3, e, -List.filter_filter, -List.getElem?_map, -List.getD_eq_getElem?_getD]
end LY
