/-! the class's graph: ends, tops, pairs that wait -/
theorem f43_0 : x_fetch q_k43 0 = x_ldi 1 1 := rfl
theorem t43_0 (C : xF) (s n : Nat) (z : xS) : x_to q_k43 C s (n + 1) 0 z = x_nx q_k43 C s n ((x_ldi 1 1) C z) := x_to_at f43_0 C s n z
theorem f43_1 : x_fetch q_k43 1 = x_st (x_iflt 12 4) := rfl
theorem t43_1 (C : xF) (s n : Nat) (z : xS) : x_to q_k43 C s (n + 1) 1 z = x_nx q_k43 C s n ((x_st (x_iflt 12 4)) C z) := x_to_at f43_1 C s n z
theorem f43_4 : x_fetch q_k43 4 = x_ldi 5 1 := rfl
theorem t43_4 (C : xF) (s n : Nat) (z : xS) : x_to q_k43 C s (n + 1) 4 z = x_nx q_k43 C s n ((x_ldi 5 1) C z) := x_to_at f43_4 C s n z
theorem f43_5 : x_fetch q_k43 5 = x_lda 6 0 := rfl
theorem t43_5 (C : xF) (s n : Nat) (z : xS) : x_to q_k43 C s (n + 1) 5 z = x_nx q_k43 C s n ((x_lda 6 0) C z) := x_to_at f43_5 C s n z
theorem f43_6 : x_fetch q_k43 6 = x_gf 9 5 7 := rfl
theorem t43_6 (C : xF) (s n : Nat) (z : xS) : x_to q_k43 C s (n + 1) 6 z = x_nx q_k43 C s n ((x_gf 9 5 7) C z) := x_to_at f43_6 C s n z
theorem f43_9 : x_fetch q_k43 9 = x_st (x_iclt 19 12) := rfl
theorem t43_9 (C : xF) (s n : Nat) (z : xS) : x_to q_k43 C s (n + 1) 9 z = x_nx q_k43 C s n ((x_st (x_iclt 19 12)) C z) := x_to_at f43_9 C s n z
theorem f43_12 : x_fetch q_k43 12 = x_lda 13 0 := rfl
theorem t43_12 (C : xF) (s n : Nat) (z : xS) : x_to q_k43 C s (n + 1) 12 z = x_nx q_k43 C s n ((x_lda 13 0) C z) := x_to_at f43_12 C s n z
theorem f43_13 : x_fetch q_k43 13 = x_gf 16 5 7 := rfl
theorem t43_13 (C : xF) (s n : Nat) (z : xS) : x_to q_k43 C s (n + 1) 13 z = x_nx q_k43 C s n ((x_gf 16 5 7) C z) := x_to_at f43_13 C s n z
theorem f43_16 : x_fetch q_k43 16 = x_st (x_goto 25) := rfl
theorem t43_16 (C : xF) (s n : Nat) (z : xS) : x_to q_k43 C s (n + 1) 16 z = x_nx q_k43 C s n ((x_st (x_goto 25)) C z) := x_to_at f43_16 C s n z
theorem f43_19 : x_fetch q_k43 19 = x_lda 20 0 := rfl
theorem t43_19 (C : xF) (s n : Nat) (z : xS) : x_to q_k43 C s (n + 1) 19 z = x_nx q_k43 C s n ((x_lda 20 0) C z) := x_to_at f43_19 C s n z
theorem f43_20 : x_fetch q_k43 20 = x_gf 23 5 1 := rfl
theorem t43_20 (C : xF) (s n : Nat) (z : xS) : x_to q_k43 C s (n + 1) 20 z = x_nx q_k43 C s n ((x_gf 23 5 1) C z) := x_to_at f43_20 C s n z
theorem f43_23 : x_fetch q_k43 23 = x_ldi 24 1 := rfl
theorem t43_23 (C : xF) (s n : Nat) (z : xS) : x_to q_k43 C s (n + 1) 23 z = x_nx q_k43 C s n ((x_ldi 24 1) C z) := x_to_at f43_23 C s n z
theorem f43_24 : x_fetch q_k43 24 = x_ald 25 0 := rfl
theorem t43_24 (C : xF) (s n : Nat) (z : xS) : x_to q_k43 C s (n + 1) 24 z = x_nx q_k43 C s n ((x_ald 25 0) C z) := x_to_at f43_24 C s n z
theorem f43_25 : x_fetch q_k43 25 = x_ri (.int) := rfl
theorem t43_25 (C : xF) (s n : Nat) (z : xS) : x_to q_k43 C s (n + 1) 25 z = x_nx q_k43 C s n ((x_ri (.int)) C z) := x_to_at f43_25 C s n z
theorem f45_0 : x_fetch q_k45 0 = x_lda 1 0 := rfl
theorem t45_0 (C : xF) (s n : Nat) (z : xS) : x_to q_k45 C s (n + 1) 0 z = x_nx q_k45 C s n ((x_lda 1 0) C z) := x_to_at f45_0 C s n z
theorem f45_1 : x_fetch q_k45 1 = x_gf 4 5 8 := rfl
theorem t45_1 (C : xF) (s n : Nat) (z : xS) : x_to q_k45 C s (n + 1) 1 z = x_nx q_k45 C s n ((x_gf 4 5 8) C z) := x_to_at f45_1 C s n z
theorem f45_4 : x_fetch q_k45 4 = x_st (x_push 7 (.int (241))) := rfl
theorem t45_4 (C : xF) (s n : Nat) (z : xS) : x_to q_k45 C s (n + 1) 4 z = x_nx q_k45 C s n ((x_st (x_push 7 (.int (241)))) C z) := x_to_at f45_4 C s n z
theorem f45_7 : x_fetch q_k45 7 = x_st (x_icge 56 10) := rfl
theorem t45_7 (C : xF) (s n : Nat) (z : xS) : x_to q_k45 C s (n + 1) 7 z = x_nx q_k45 C s n ((x_st (x_icge 56 10)) C z) := x_to_at f45_7 C s n z
theorem f45_10 : x_fetch q_k45 10 = x_ldi 11 1 := rfl
theorem t45_10 (C : xF) (s n : Nat) (z : xS) : x_to q_k45 C s (n + 1) 10 z = x_nx q_k45 C s n ((x_ldi 11 1) C z) := x_to_at f45_10 C s n z
theorem f45_11 : x_fetch q_k45 11 = x_lda 12 0 := rfl
theorem t45_11 (C : xF) (s n : Nat) (z : xS) : x_to q_k45 C s (n + 1) 11 z = x_nx q_k45 C s n ((x_lda 12 0) C z) := x_to_at f45_11 C s n z
theorem f45_12 : x_fetch q_k45 12 = x_gf 15 5 7 := rfl
theorem t45_12 (C : xF) (s n : Nat) (z : xS) : x_to q_k45 C s (n + 1) 12 z = x_nx q_k45 C s n ((x_gf 15 5 7) C z) := x_to_at f45_12 C s n z
theorem f45_15 : x_fetch q_k45 15 = x_st (x_icge 56 18) := rfl
theorem t45_15 (C : xF) (s n : Nat) (z : xS) : x_to q_k45 C s (n + 1) 15 z = x_nx q_k45 C s n ((x_st (x_icge 56 18)) C z) := x_to_at f45_15 C s n z
theorem f45_18 : x_fetch q_k45 18 = x_ldi 19 2 := rfl
theorem t45_18 (C : xF) (s n : Nat) (z : xS) : x_to q_k45 C s (n + 1) 18 z = x_nx q_k45 C s n ((x_ldi 19 2) C z) := x_to_at f45_18 C s n z
theorem f45_19 : x_fetch q_k45 19 = x_lda 20 0 := rfl
theorem t45_19 (C : xF) (s n : Nat) (z : xS) : x_to q_k45 C s (n + 1) 19 z = x_nx q_k45 C s n ((x_lda 20 0) C z) := x_to_at f45_19 C s n z
theorem f45_20 : x_fetch q_k45 20 = x_gf 23 5 7 := rfl
theorem t45_20 (C : xF) (s n : Nat) (z : xS) : x_to q_k45 C s (n + 1) 20 z = x_nx q_k45 C s n ((x_gf 23 5 7) C z) := x_to_at f45_20 C s n z
theorem f45_23 : x_fetch q_k45 23 = x_st (x_icge 56 26) := rfl
theorem t45_23 (C : xF) (s n : Nat) (z : xS) : x_to q_k45 C s (n + 1) 23 z = x_nx q_k45 C s n ((x_st (x_icge 56 26)) C z) := x_to_at f45_23 C s n z
theorem f45_26 : x_fetch q_k45 26 = x_lda 27 0 := rfl
theorem t45_26 (C : xF) (s n : Nat) (z : xS) : x_to q_k45 C s (n + 1) 26 z = x_nx q_k45 C s n ((x_lda 27 0) C z) := x_to_at f45_26 C s n z
theorem f45_27 : x_fetch q_k45 27 = x_gf 30 5 5 := rfl
theorem t45_27 (C : xF) (s n : Nat) (z : xS) : x_to q_k45 C s (n + 1) 27 z = x_nx q_k45 C s n ((x_gf 30 5 5) C z) := x_to_at f45_27 C s n z
theorem f45_30 : x_fetch q_k45 30 = x_lda 31 0 := rfl
theorem t45_30 (C : xF) (s n : Nat) (z : xS) : x_to q_k45 C s (n + 1) 30 z = x_nx q_k45 C s n ((x_lda 31 0) C z) := x_to_at f45_30 C s n z
theorem f45_31 : x_fetch q_k45 31 = x_gf 34 5 8 := rfl
theorem t45_31 (C : xF) (s n : Nat) (z : xS) : x_to q_k45 C s (n + 1) 31 z = x_nx q_k45 C s n ((x_gf 34 5 8) C z) := x_to_at f45_31 C s n z
theorem f45_34 : x_fetch q_k45 34 = x_ldi 35 1 := rfl
theorem t45_34 (C : xF) (s n : Nat) (z : xS) : x_to q_k45 C s (n + 1) 34 z = x_nx q_k45 C s n ((x_ldi 35 1) C z) := x_to_at f45_34 C s n z
theorem f45_35 : x_fetch q_k45 35 = x_ast 36 0 (fun x => x) := rfl
theorem t45_35 (C : xF) (s n : Nat) (z : xS) : x_to q_k45 C s (n + 1) 35 z = x_nx q_k45 C s n ((x_ast 36 0 (fun x => x)) C z) := x_to_at f45_35 C s n z
theorem f45_36 : x_fetch q_k45 36 = x_lda 37 0 := rfl
theorem t45_36 (C : xF) (s n : Nat) (z : xS) : x_to q_k45 C s (n + 1) 36 z = x_nx q_k45 C s n ((x_lda 37 0) C z) := x_to_at f45_36 C s n z
theorem f45_37 : x_fetch q_k45 37 = x_gf 40 5 6 := rfl
theorem t45_37 (C : xF) (s n : Nat) (z : xS) : x_to q_k45 C s (n + 1) 37 z = x_nx q_k45 C s n ((x_gf 40 5 6) C z) := x_to_at f45_37 C s n z
theorem f45_40 : x_fetch q_k45 40 = x_lda 41 0 := rfl
theorem t45_40 (C : xF) (s n : Nat) (z : xS) : x_to q_k45 C s (n + 1) 40 z = x_nx q_k45 C s n ((x_lda 41 0) C z) := x_to_at f45_40 C s n z
theorem f45_41 : x_fetch q_k45 41 = x_gf 44 5 8 := rfl
theorem t45_41 (C : xF) (s n : Nat) (z : xS) : x_to q_k45 C s (n + 1) 41 z = x_nx q_k45 C s n ((x_gf 44 5 8) C z) := x_to_at f45_41 C s n z
theorem f45_44 : x_fetch q_k45 44 = x_ldi 45 2 := rfl
theorem t45_44 (C : xF) (s n : Nat) (z : xS) : x_to q_k45 C s (n + 1) 44 z = x_nx q_k45 C s n ((x_ldi 45 2) C z) := x_to_at f45_44 C s n z
theorem f45_45 : x_fetch q_k45 45 = x_ast 46 0 (fun x => x) := rfl
theorem t45_45 (C : xF) (s n : Nat) (z : xS) : x_to q_k45 C s (n + 1) 45 z = x_nx q_k45 C s n ((x_ast 46 0 (fun x => x)) C z) := x_to_at f45_45 C s n z
theorem f45_46 : x_fetch q_k45 46 = x_lda 47 0 := rfl
theorem t45_46 (C : xF) (s n : Nat) (z : xS) : x_to q_k45 C s (n + 1) 46 z = x_nx q_k45 C s n ((x_lda 47 0) C z) := x_to_at f45_46 C s n z
theorem f45_47 : x_fetch q_k45 47 = x_st (x_dup 48) := rfl
theorem t45_47 (C : xF) (s n : Nat) (z : xS) : x_to q_k45 C s (n + 1) 47 z = x_nx q_k45 C s n ((x_st (x_dup 48)) C z) := x_to_at f45_47 C s n z
theorem f45_48 : x_fetch q_k45 48 = x_gf 51 5 8 := rfl
theorem t45_48 (C : xF) (s n : Nat) (z : xS) : x_to q_k45 C s (n + 1) 48 z = x_nx q_k45 C s n ((x_gf 51 5 8) C z) := x_to_at f45_48 C s n z
theorem f45_51 : x_fetch q_k45 51 = x_st (x_push 52 (.int (1))) := rfl
theorem t45_51 (C : xF) (s n : Nat) (z : xS) : x_to q_k45 C s (n + 1) 51 z = x_nx q_k45 C s n ((x_st (x_push 52 (.int (1)))) C z) := x_to_at f45_51 C s n z
theorem f45_52 : x_fetch q_k45 52 = x_st (x_bin 53 (fun a b => a + b)) := rfl
theorem t45_52 (C : xF) (s n : Nat) (z : xS) : x_to q_k45 C s (n + 1) 52 z = x_nx q_k45 C s n ((x_st (x_bin 53 (fun a b => a + b))) C z) := x_to_at f45_52 C s n z
theorem f45_53 : x_fetch q_k45 53 = x_pf 56 5 8 (.int) := rfl
theorem t45_53 (C : xF) (s n : Nat) (z : xS) : x_to q_k45 C s (n + 1) 53 z = x_nx q_k45 C s n ((x_pf 56 5 8 (.int)) C z) := x_to_at f45_53 C s n z
theorem f45_56 : x_fetch q_k45 56 = x_rv := rfl
theorem t45_56 (C : xF) (s n : Nat) (z : xS) : x_to q_k45 C s (n + 1) 56 z = x_nx q_k45 C s n ((x_rv) C z) := x_to_at f45_56 C s n z
theorem f46_0 : x_fetch q_k46 0 = x_lda 1 0 := rfl
theorem t46_0 (C : xF) (s n : Nat) (z : xS) : x_to q_k46 C s (n + 1) 0 z = x_nx q_k46 C s n ((x_lda 1 0) C z) := x_to_at f46_0 C s n z
theorem f46_1 : x_fetch q_k46 1 = x_gf 4 5 0 := rfl
theorem t46_1 (C : xF) (s n : Nat) (z : xS) : x_to q_k46 C s (n + 1) 1 z = x_nx q_k46 C s n ((x_gf 4 5 0) C z) := x_to_at f46_1 C s n z
theorem f46_4 : x_fetch q_k46 4 = x_ldi 5 1 := rfl
theorem t46_4 (C : xF) (s n : Nat) (z : xS) : x_to q_k46 C s (n + 1) 4 z = x_nx q_k46 C s n ((x_ldi 5 1) C z) := x_to_at f46_4 C s n z
theorem f46_5 : x_fetch q_k46 5 = x_ald 6 0 := rfl
theorem t46_5 (C : xF) (s n : Nat) (z : xS) : x_to q_k46 C s (n + 1) 5 z = x_nx q_k46 C s n ((x_ald 6 0) C z) := x_to_at f46_5 C s n z
theorem f46_6 : x_fetch q_k46 6 = x_cl_ 9 5 1 := rfl
theorem t46_6 (C : xF) (s n : Nat) (z : xS) : x_to q_k46 C s (n + 1) 6 z = x_nx q_k46 C s n ((x_cl_ 9 5 1) C z) := x_to_at f46_6 C s n z
theorem f46_9 : x_fetch q_k46 9 = x_sti 10 3 := rfl
theorem t46_9 (C : xF) (s n : Nat) (z : xS) : x_to q_k46 C s (n + 1) 9 z = x_nx q_k46 C s n ((x_sti 10 3) C z) := x_to_at f46_9 C s n z
theorem f46_10 : x_fetch q_k46 10 = x_ldi 11 1 := rfl
theorem t46_10 (C : xF) (s n : Nat) (z : xS) : x_to q_k46 C s (n + 1) 10 z = x_nx q_k46 C s n ((x_ldi 11 1) C z) := x_to_at f46_10 C s n z
theorem f46_11 : x_fetch q_k46 11 = x_st (x_push 12 (.int (1))) := rfl
theorem t46_11 (C : xF) (s n : Nat) (z : xS) : x_to q_k46 C s (n + 1) 11 z = x_nx q_k46 C s n ((x_st (x_push 12 (.int (1)))) C z) := x_to_at f46_11 C s n z
theorem f46_12 : x_fetch q_k46 12 = x_st (x_bin 13 (fun a b => a + b)) := rfl
theorem t46_12 (C : xF) (s n : Nat) (z : xS) : x_to q_k46 C s (n + 1) 12 z = x_nx q_k46 C s n ((x_st (x_bin 13 (fun a b => a + b))) C z) := x_to_at f46_12 C s n z
theorem f46_13 : x_fetch q_k46 13 = x_sti 15 4 := rfl
theorem t46_13 (C : xF) (s n : Nat) (z : xS) : x_to q_k46 C s (n + 1) 13 z = x_nx q_k46 C s n ((x_sti 15 4) C z) := x_to_at f46_13 C s n z
theorem f46_15 : x_fetch q_k46 15 = x_ldi 16 2 := rfl
theorem t46_15 (C : xF) (s n : Nat) (z : xS) : x_to q_k46 C s (n + 1) 15 z = x_nx q_k46 C s n ((x_ldi 16 2) C z) := x_to_at f46_15 C s n z
theorem f46_16 : x_fetch q_k46 16 = x_st (x_push 17 (.int (1))) := rfl
theorem t46_16 (C : xF) (s n : Nat) (z : xS) : x_to q_k46 C s (n + 1) 16 z = x_nx q_k46 C s n ((x_st (x_push 17 (.int (1)))) C z) := x_to_at f46_16 C s n z
theorem f46_17 : x_fetch q_k46 17 = x_st (x_bin 18 (fun a b => a + b)) := rfl
theorem t46_17 (C : xF) (s n : Nat) (z : xS) : x_to q_k46 C s (n + 1) 17 z = x_nx q_k46 C s n ((x_st (x_bin 18 (fun a b => a + b))) C z) := x_to_at f46_17 C s n z
theorem f46_18 : x_fetch q_k46 18 = x_sti 20 5 := rfl
theorem t46_18 (C : xF) (s n : Nat) (z : xS) : x_to q_k46 C s (n + 1) 18 z = x_nx q_k46 C s n ((x_sti 20 5) C z) := x_to_at f46_18 C s n z
theorem f46_20 : x_fetch q_k46 20 = x_st (x_push 21 (.int (0))) := rfl
theorem t46_20 (C : xF) (s n : Nat) (z : xS) : x_to q_k46 C s (n + 1) 20 z = x_nx q_k46 C s n ((x_st (x_push 21 (.int (0)))) C z) := x_to_at f46_20 C s n z
theorem f46_21 : x_fetch q_k46 21 = x_sti 23 6 := rfl
theorem t46_21 (C : xF) (s n : Nat) (z : xS) : x_to q_k46 C s (n + 1) 21 z = x_nx q_k46 C s n ((x_sti 23 6) C z) := x_to_at f46_21 C s n z
theorem f46_23 : x_fetch q_k46 23 = x_ldi 25 6 := rfl
theorem t46_23 (C : xF) (s n : Nat) (z : xS) : x_to q_k46 C s (n + 1) 23 z = x_nx q_k46 C s n ((x_ldi 25 6) C z) := x_to_at f46_23 C s n z
theorem f46_25 : x_fetch q_k46 25 = x_ldi 26 3 := rfl
theorem t46_25 (C : xF) (s n : Nat) (z : xS) : x_to q_k46 C s (n + 1) 25 z = x_nx q_k46 C s n ((x_ldi 26 3) C z) := x_to_at f46_25 C s n z
theorem f46_26 : x_fetch q_k46 26 = x_st (x_icge 59 29) := rfl
theorem t46_26 (C : xF) (s n : Nat) (z : xS) : x_to q_k46 C s (n + 1) 26 z = x_nx q_k46 C s n ((x_st (x_icge 59 29)) C z) := x_to_at f46_26 C s n z
theorem f46_29 : x_fetch q_k46 29 = x_lda 30 0 := rfl
theorem t46_29 (C : xF) (s n : Nat) (z : xS) : x_to q_k46 C s (n + 1) 29 z = x_nx q_k46 C s n ((x_lda 30 0) C z) := x_to_at f46_29 C s n z
theorem f46_30 : x_fetch q_k46 30 = x_ldi 32 4 := rfl
theorem t46_30 (C : xF) (s n : Nat) (z : xS) : x_to q_k46 C s (n + 1) 30 z = x_nx q_k46 C s n ((x_ldi 32 4) C z) := x_to_at f46_30 C s n z
theorem f46_32 : x_fetch q_k46 32 = x_ldi 34 5 := rfl
theorem t46_32 (C : xF) (s n : Nat) (z : xS) : x_to q_k46 C s (n + 1) 32 z = x_nx q_k46 C s n ((x_ldi 34 5) C z) := x_to_at f46_32 C s n z
theorem f46_34 : x_fetch q_k46 34 = x_cv 37 45 3 5 := rfl
theorem t46_34 (C : xF) (s n : Nat) (z : xS) : x_to q_k46 C s (n + 1) 34 z = x_nx q_k46 C s n ((x_cv 37 45 3 5) C z) := x_to_at f46_34 C s n z
theorem f46_37 : x_fetch q_k46 37 = x_lda 38 0 := rfl
theorem t46_37 (C : xF) (s n : Nat) (z : xS) : x_to q_k46 C s (n + 1) 37 z = x_nx q_k46 C s n ((x_lda 38 0) C z) := x_to_at f46_37 C s n z
theorem f46_38 : x_fetch q_k46 38 = x_ldi 40 4 := rfl
theorem t46_38 (C : xF) (s n : Nat) (z : xS) : x_to q_k46 C s (n + 1) 38 z = x_nx q_k46 C s n ((x_ldi 40 4) C z) := x_to_at f46_38 C s n z
theorem f46_40 : x_fetch q_k46 40 = x_cv 43 43 2 5 := rfl
theorem t46_40 (C : xF) (s n : Nat) (z : xS) : x_to q_k46 C s (n + 1) 40 z = x_nx q_k46 C s n ((x_cv 43 43 2 5) C z) := x_to_at f46_40 C s n z
theorem f46_43 : x_fetch q_k46 43 = x_sti 45 4 := rfl
theorem t46_43 (C : xF) (s n : Nat) (z : xS) : x_to q_k46 C s (n + 1) 43 z = x_nx q_k46 C s n ((x_sti 45 4) C z) := x_to_at f46_43 C s n z
theorem f46_45 : x_fetch q_k46 45 = x_lda 46 0 := rfl
theorem t46_45 (C : xF) (s n : Nat) (z : xS) : x_to q_k46 C s (n + 1) 45 z = x_nx q_k46 C s n ((x_lda 46 0) C z) := x_to_at f46_45 C s n z
theorem f46_46 : x_fetch q_k46 46 = x_ldi 48 5 := rfl
theorem t46_46 (C : xF) (s n : Nat) (z : xS) : x_to q_k46 C s (n + 1) 46 z = x_nx q_k46 C s n ((x_ldi 48 5) C z) := x_to_at f46_46 C s n z
theorem f46_48 : x_fetch q_k46 48 = x_cv 51 43 2 5 := rfl
theorem t46_48 (C : xF) (s n : Nat) (z : xS) : x_to q_k46 C s (n + 1) 48 z = x_nx q_k46 C s n ((x_cv 51 43 2 5) C z) := x_to_at f46_48 C s n z
theorem f46_51 : x_fetch q_k46 51 = x_sti 53 5 := rfl
theorem t46_51 (C : xF) (s n : Nat) (z : xS) : x_to q_k46 C s (n + 1) 51 z = x_nx q_k46 C s n ((x_sti 53 5) C z) := x_to_at f46_51 C s n z
theorem f46_53 : x_fetch q_k46 53 = x_iinc 56 6 (1) := rfl
theorem t46_53 (C : xF) (s n : Nat) (z : xS) : x_to q_k46 C s (n + 1) 53 z = x_nx q_k46 C s n ((x_iinc 56 6 (1)) C z) := x_to_at f46_53 C s n z
theorem f46_56 : x_fetch q_k46 56 = x_st (x_goto 23) := rfl
theorem t46_56 (C : xF) (s n : Nat) (z : xS) : x_to q_k46 C s (n + 1) 56 z = x_nx q_k46 C s n ((x_st (x_goto 23)) C z) := x_to_at f46_56 C s n z
theorem f46_59 : x_fetch q_k46 59 = x_rv := rfl
theorem t46_59 (C : xF) (s n : Nat) (z : xS) : x_to q_k46 C s (n + 1) 59 z = x_nx q_k46 C s n ((x_rv) C z) := x_to_at f46_59 C s n z
theorem f47_0 : x_fetch q_k47 0 = x_ldi 1 1 := rfl
theorem t47_0 (C : xF) (s n : Nat) (z : xS) : x_to q_k47 C s (n + 1) 0 z = x_nx q_k47 C s n ((x_ldi 1 1) C z) := x_to_at f47_0 C s n z
theorem f47_1 : x_fetch q_k47 1 = x_sti 2 2 := rfl
theorem t47_1 (C : xF) (s n : Nat) (z : xS) : x_to q_k47 C s (n + 1) 1 z = x_nx q_k47 C s n ((x_sti 2 2) C z) := x_to_at f47_1 C s n z
theorem f47_2 : x_fetch q_k47 2 = x_st (x_push 3 (.int (0))) := rfl
theorem t47_2 (C : xF) (s n : Nat) (z : xS) : x_to q_k47 C s (n + 1) 2 z = x_nx q_k47 C s n ((x_st (x_push 3 (.int (0)))) C z) := x_to_at f47_2 C s n z
theorem f47_3 : x_fetch q_k47 3 = x_sti 4 3 := rfl
theorem t47_3 (C : xF) (s n : Nat) (z : xS) : x_to q_k47 C s (n + 1) 3 z = x_nx q_k47 C s n ((x_sti 4 3) C z) := x_to_at f47_3 C s n z
theorem f47_4 : x_fetch q_k47 4 = x_ldi 5 3 := rfl
theorem t47_4 (C : xF) (s n : Nat) (z : xS) : x_to q_k47 C s (n + 1) 4 z = x_nx q_k47 C s n ((x_ldi 5 3) C z) := x_to_at f47_4 C s n z
theorem f47_5 : x_fetch q_k47 5 = x_st (x_push 7 (.int (80))) := rfl
theorem t47_5 (C : xF) (s n : Nat) (z : xS) : x_to q_k47 C s (n + 1) 5 z = x_nx q_k47 C s n ((x_st (x_push 7 (.int (80)))) C z) := x_to_at f47_5 C s n z
theorem f47_7 : x_fetch q_k47 7 = x_st (x_icge 33 10) := rfl
theorem t47_7 (C : xF) (s n : Nat) (z : xS) : x_to q_k47 C s (n + 1) 7 z = x_nx q_k47 C s n ((x_st (x_icge 33 10)) C z) := x_to_at f47_7 C s n z
theorem f47_10 : x_fetch q_k47 10 = x_lda 11 0 := rfl
theorem t47_10 (C : xF) (s n : Nat) (z : xS) : x_to q_k47 C s (n + 1) 10 z = x_nx q_k47 C s n ((x_lda 11 0) C z) := x_to_at f47_10 C s n z
theorem f47_11 : x_fetch q_k47 11 = x_gf 14 5 2 := rfl
theorem t47_11 (C : xF) (s n : Nat) (z : xS) : x_to q_k47 C s (n + 1) 11 z = x_nx q_k47 C s n ((x_gf 14 5 2) C z) := x_to_at f47_11 C s n z
theorem f47_14 : x_fetch q_k47 14 = x_ldi 15 2 := rfl
theorem t47_14 (C : xF) (s n : Nat) (z : xS) : x_to q_k47 C s (n + 1) 14 z = x_nx q_k47 C s n ((x_ldi 15 2) C z) := x_to_at f47_14 C s n z
theorem f47_15 : x_fetch q_k47 15 = x_ald 16 0 := rfl
theorem t47_15 (C : xF) (s n : Nat) (z : xS) : x_to q_k47 C s (n + 1) 15 z = x_nx q_k47 C s n ((x_ald 16 0) C z) := x_to_at f47_15 C s n z
theorem f47_16 : x_fetch q_k47 16 = x_ldi 17 2 := rfl
theorem t47_16 (C : xF) (s n : Nat) (z : xS) : x_to q_k47 C s (n + 1) 16 z = x_nx q_k47 C s n ((x_ldi 17 2) C z) := x_to_at f47_16 C s n z
theorem f47_17 : x_fetch q_k47 17 = x_st (x_iceq 33 20) := rfl
theorem t47_17 (C : xF) (s n : Nat) (z : xS) : x_to q_k47 C s (n + 1) 17 z = x_nx q_k47 C s n ((x_st (x_iceq 33 20)) C z) := x_to_at f47_17 C s n z
theorem f47_20 : x_fetch q_k47 20 = x_lda 21 0 := rfl
theorem t47_20 (C : xF) (s n : Nat) (z : xS) : x_to q_k47 C s (n + 1) 20 z = x_nx q_k47 C s n ((x_lda 21 0) C z) := x_to_at f47_20 C s n z
theorem f47_21 : x_fetch q_k47 21 = x_gf 24 5 2 := rfl
theorem t47_21 (C : xF) (s n : Nat) (z : xS) : x_to q_k47 C s (n + 1) 21 z = x_nx q_k47 C s n ((x_gf 24 5 2) C z) := x_to_at f47_21 C s n z
theorem f47_24 : x_fetch q_k47 24 = x_ldi 25 2 := rfl
theorem t47_24 (C : xF) (s n : Nat) (z : xS) : x_to q_k47 C s (n + 1) 24 z = x_nx q_k47 C s n ((x_ldi 25 2) C z) := x_to_at f47_24 C s n z
theorem f47_25 : x_fetch q_k47 25 = x_ald 26 0 := rfl
theorem t47_25 (C : xF) (s n : Nat) (z : xS) : x_to q_k47 C s (n + 1) 25 z = x_nx q_k47 C s n ((x_ald 26 0) C z) := x_to_at f47_25 C s n z
theorem f47_26 : x_fetch q_k47 26 = x_sti 27 2 := rfl
theorem t47_26 (C : xF) (s n : Nat) (z : xS) : x_to q_k47 C s (n + 1) 26 z = x_nx q_k47 C s n ((x_sti 27 2) C z) := x_to_at f47_26 C s n z
theorem f47_27 : x_fetch q_k47 27 = x_iinc 30 3 (1) := rfl
theorem t47_27 (C : xF) (s n : Nat) (z : xS) : x_to q_k47 C s (n + 1) 27 z = x_nx q_k47 C s n ((x_iinc 30 3 (1)) C z) := x_to_at f47_27 C s n z
theorem f47_30 : x_fetch q_k47 30 = x_st (x_goto 4) := rfl
theorem t47_30 (C : xF) (s n : Nat) (z : xS) : x_to q_k47 C s (n + 1) 30 z = x_nx q_k47 C s n ((x_st (x_goto 4)) C z) := x_to_at f47_30 C s n z
theorem f47_33 : x_fetch q_k47 33 = x_ldi 34 2 := rfl
theorem t47_33 (C : xF) (s n : Nat) (z : xS) : x_to q_k47 C s (n + 1) 33 z = x_nx q_k47 C s n ((x_ldi 34 2) C z) := x_to_at f47_33 C s n z
theorem f47_34 : x_fetch q_k47 34 = x_ri (.int) := rfl
theorem t47_34 (C : xF) (s n : Nat) (z : xS) : x_to q_k47 C s (n + 1) 34 z = x_nx q_k47 C s n ((x_ri (.int)) C z) := x_to_at f47_34 C s n z
/-- the graph is cell 16; its rows: 17 signs, 18 ends, 19 roots, 20 firsts, 21 finite, 22 and 23 the pairs -/
def gF (l wt : Int) : List Value := [.ref 20, .ref 21, .ref 22, .ref 23, .ref 24, .ref 25, .ref 26, .int (iZ l), .int (iZ wt)]
abbrev gO (l wt : Int) : xC := .inr (5, gF l wt)
theorem gF_len (l wt : Int) : (gF l wt).length = 9 := rfl
theorem gg_0 (l wt : Int) : (gF l wt)[0]? = some (.ref 20) := rfl
theorem gg_1 (l wt : Int) : (gF l wt)[1]? = some (.ref 21) := rfl
theorem gg_2 (l wt : Int) : (gF l wt)[2]? = some (.ref 22) := rfl
theorem gg_3 (l wt : Int) : (gF l wt)[3]? = some (.ref 23) := rfl
theorem gg_4 (l wt : Int) : (gF l wt)[4]? = some (.ref 24) := rfl
theorem gg_5 (l wt : Int) : (gF l wt)[5]? = some (.ref 25) := rfl
theorem gg_6 (l wt : Int) : (gF l wt)[6]? = some (.ref 26) := rfl
theorem gg_7 (l wt : Int) : (gF l wt)[7]? = some (.int (iZ l)) := rfl
theorem gg_8 (l wt : Int) : (gF l wt)[8]? = some (.int (iZ wt)) := rfl
theorem gs_7 (l wt v : Int) : (gF l wt).set 7 (.int (iZ v)) = gF v wt := rfl
theorem gs_8 (l wt v : Int) : (gF l wt).set 8 (.int (iZ v)) = gF l v := rfl
section GR
variable {w : Nat → xC} {N : Nat} {l wt : Int} {Sy Ee Ro Os Ot P : List Int}
theorem m43 (d : Nat) (hN : 53 ≤ N) (hg : w 16 = gO l wt) (hE : w 18 = cI 0 Ee) (e1 : Ee.length = 80) (l0_ : 0 ≤ l) (l1_ : l ≤ 80) (p : Int) (p0 : 0 ≤ p) (p1 : p < l) : Xc (d + 1) 43 [.ref 19, .int (iZ p)] (hp w N) (some (.int (iZ (gZ Ee p))), hp w N) := by
  refine Xc.of rfl (by simp [lg_sl, Value.category]) ?_ (x_le.rf)
  have hc : c1 (lv_args 0 [.ref 19, .int (iZ p)]) := by simp [c1, lv_args, Value.category]
  have l0 : x_lk (lv_args 0 [.ref 19, .int (iZ p)]) 0 = some (.ref 19) := rfl
  have l1 : x_lk (lv_args 0 [.ref 19, .int (iZ p)]) 1 = some (.int (iZ p)) := rfl
  generalize lv_args 0 [.ref 19, .int (iZ p)] = lv at hc l0 l1
  refine Gx.fin 40 Cs.tt (fun C _ => ?_)
  have b1 : ¬ p < 0 := by omega
  simp (disch := first | (refine c1_id ?_; assumption) | (refine c1_st rfl ?_; repeat (first | assumption | refine c1_st rfl ?_)) | omega) [nx_l, nx_r, nx_n, x_st, x_push, x_bin, x_div, x_un, x_dup, x_pop, x_dup2, x_goto, x_ifeq, x_ifne, x_iflt, x_ifge, x_ifgt, x_ifle, x_iceq, x_icne, x_iclt, x_icge, x_icgt, x_icle, x_ifnull, x_ifnonnull, x_ldi, x_lda, x_sti, x_sta, x_iinc, x_gf, x_pf, x_ald, x_ast, x_aln, x_len, x_cl_, x_cv, x_cs, x_rc, x_r0, x_isT, x_oi, x_rv, x_ri, x_ra, Value.category, t43_0, t43_1, t43_4, t43_5, t43_6, t43_9, t43_12, t43_13, t43_16, t43_19, t43_20, t43_23, t43_24, t43_25, lk_s, hp_get, hp_set, uH_at, uH_ne, uH_upd, uH_swap, iZ_add, iZ_sub, iZ_mul, iZ_neg, iZ_lt, iZ_le, iZ_eq, iZ_div, iZ_of, ix_Z, gZ_map, gZ_mapI, gZ_map', le_0, le_s, sZ_map, sZ_len, bZ_0, bZ_inj, bZ_t, bZ_f, nr_i, nr_0, nr_1, nr_b, ft_i, ft_b, ft_0, ft_1, zl_0, zl_1, l0, l1, hg, hE, gF_len, gg_0, gg_1, gg_2, gg_3, gg_4, gg_5, gg_6, gg_7, gg_8, gs_7, gs_8, b1, p1, -List.filter_filter, -List.getElem?_map, -List.getD_eq_getElem?_getD]
theorem m45 (d : Nat) (hN : 53 ≤ N) (hg : w 16 = gO l wt) (hO : w 22 = cI 0 Os) (hT : w 23 = cI 0 Ot) (e1 : Os.length = 241) (e2 : Ot.length = 241) (l0_ : 0 ≤ l) (l1_ : l ≤ 80) (w0 : 0 ≤ wt) (w1 : wt < 241) (a b : Int) (a0 : 0 ≤ a) (a1 : a < l) (b0 : 0 ≤ b) (b1 : b < l) : Xc (d + 1) 45 [.ref 19, .int (iZ a), .int (iZ b)] (hp w N) (none, hp (uH (uH (uH w 16 (gO l (wt + 1))) 22 (cI 0 (sZ Os wt a))) 23 (cI 0 (sZ Ot wt b))) N) := by
  refine Xc.of rfl (by simp [lg_sl, Value.category]) ?_ (hp_le (Nat.le_refl _) (fun j _ => by (simp only [uH]; repeat' split) <;> simp_all [x_c1, sZ_len, gF_len]))
  have hc : c1 (lv_args 0 [.ref 19, .int (iZ a), .int (iZ b)]) := by simp [c1, lv_args, Value.category]
  have l0 : x_lk (lv_args 0 [.ref 19, .int (iZ a), .int (iZ b)]) 0 = some (.ref 19) := rfl
  have l1 : x_lk (lv_args 0 [.ref 19, .int (iZ a), .int (iZ b)]) 1 = some (.int (iZ a)) := rfl
  have l2 : x_lk (lv_args 0 [.ref 19, .int (iZ a), .int (iZ b)]) 2 = some (.int (iZ b)) := rfl
  generalize lv_args 0 [.ref 19, .int (iZ a), .int (iZ b)] = lv at hc l0 l1 l2
  refine Gx.fin 60 Cs.tt (fun C _ => ?_)
  have q1 : ¬ 241 ≤ wt := by omega
  have q2 : ¬ l ≤ a := by omega
  have q3 : ¬ l ≤ b := by omega
  simp (disch := first | (refine c1_id ?_; assumption) | (refine c1_st rfl ?_; repeat (first | assumption | refine c1_st rfl ?_)) | omega) [nx_l, nx_r, nx_n, x_st, x_push, x_bin, x_div, x_un, x_dup, x_pop, x_dup2, x_goto, x_ifeq, x_ifne, x_iflt, x_ifge, x_ifgt, x_ifle, x_iceq, x_icne, x_iclt, x_icge, x_icgt, x_icle, x_ifnull, x_ifnonnull, x_ldi, x_lda, x_sti, x_sta, x_iinc, x_gf, x_pf, x_ald, x_ast, x_aln, x_len, x_cl_, x_cv, x_cs, x_rc, x_r0, x_isT, x_oi, x_rv, x_ri, x_ra, Value.category, t45_0, t45_1, t45_4, t45_7, t45_10, t45_11, t45_12, t45_15, t45_18, t45_19, t45_20, t45_23, t45_26, t45_27, t45_30, t45_31, t45_34, t45_35, t45_36, t45_37, t45_40, t45_41, t45_44, t45_45, t45_46, t45_47, t45_48, t45_51, t45_52, t45_53, t45_56, lk_s, hp_get, hp_set, uH_at, uH_ne, uH_upd, uH_swap, iZ_add, iZ_sub, iZ_mul, iZ_neg, iZ_lt, iZ_le, iZ_eq, iZ_div, iZ_of, ix_Z, gZ_map, gZ_mapI, gZ_map', le_0, le_s, sZ_map, sZ_len, bZ_0, bZ_inj, bZ_t, bZ_f, nr_i, nr_0, nr_1, nr_b, ft_i, ft_b, ft_0, ft_1, zl_0, zl_1, zl_241, l0, l1, l2, hg, hO, hT, gF_len, gg_0, gg_1, gg_2, gg_3, gg_4, gg_5, gg_6, gg_7, gg_8, gs_7, gs_8, q1, q2, q3, -List.filter_filter, -List.getElem?_map, -List.getD_eq_getElem?_getD]
theorem l47 (d : Nat) (hN : 53 ≤ N) (hg : w 16 = gO l wt) (hR : w 19 = cI 0 Ro) (e1 : Ro.length = 80) (hr : ∀ i, 0 ≤ i → i < 80 → 0 ≤ gZ Ro i ∧ gZ Ro i < 80) : ∀ (r : Nat) (k q : Int) (lv : xL), k + r = 80 → 0 ≤ k → 0 ≤ q → q < 80 → c1 lv → x_lk lv 0 = some (.ref 19) → x_lk lv 2 = some (.int (iZ q)) → x_lk lv 3 = some (.int (iZ k)) →
    Gx q_k47 d 4 (lv, [], hp w N) (some (.int (iZ (fdn (fun i => (gZ Ro (i : Int)).toNat) r q.toNat))), hp w N) := by
  intro r
  induction r with
  | zero =>
    intro k q lv hk k0 q0 q1 hc l0 l2 l3
    refine Gx.fin 20 Cs.tt (fun C _ => ?_)
    have b1 : 80 ≤ k := by omega
    have e9 : ((fdn (fun i => (gZ Ro (i : Int)).toNat) 0 q.toNat : Nat) : Int) = q := by
      show ((q.toNat : Nat) : Int) = q
      omega
    simp (disch := first | (refine c1_id ?_; assumption) | (refine c1_st rfl ?_; repeat (first | assumption | refine c1_st rfl ?_)) | omega) [nx_l, nx_r, nx_n, x_st, x_push, x_bin, x_div, x_un, x_dup, x_pop, x_dup2, x_goto, x_ifeq, x_ifne, x_iflt, x_ifge, x_ifgt, x_ifle, x_iceq, x_icne, x_iclt, x_icge, x_icgt, x_icle, x_ifnull, x_ifnonnull, x_ldi, x_lda, x_sti, x_sta, x_iinc, x_gf, x_pf, x_ald, x_ast, x_aln, x_len, x_cl_, x_cv, x_cs, x_rc, x_r0, x_isT, x_oi, x_rv, x_ri, x_ra, Value.category, t47_0, t47_1, t47_2, t47_3, t47_4, t47_5, t47_7, t47_10, t47_11, t47_14, t47_15, t47_16, t47_17, t47_20, t47_21, t47_24, t47_25, t47_26, t47_27, t47_30, t47_33, t47_34, lk_s, hp_get, hp_set, uH_at, uH_ne, uH_upd, uH_swap, iZ_add, iZ_sub, iZ_mul, iZ_neg, iZ_lt, iZ_le, iZ_eq, iZ_div, iZ_of, ix_Z, gZ_map, gZ_mapI, gZ_map', le_0, le_s, sZ_map, sZ_len, bZ_0, bZ_inj, bZ_t, bZ_f, nr_i, nr_0, nr_1, nr_b, ft_i, ft_b, ft_0, ft_1, zl_0, zl_1, zl_80, l0, l2, l3, b1, e9, -List.filter_filter, -List.getElem?_map, -List.getD_eq_getElem?_getD]
  | succ r ih =>
    intro k q lv hk k0 q0 q1 hc l0 l2 l3
    have hq := hr q q0 q1
    have b1 : ¬ 80 ≤ k := by omega
    have eq : ((q.toNat : Nat) : Int) = q := by omega
    by_cases h : gZ Ro q = q
    · have e9 : ((fdn (fun i => (gZ Ro (i : Int)).toNat) (r + 1) q.toNat : Nat) : Int) = q := by
        rw [fdn_root (by show (gZ Ro ((q.toNat : Nat) : Int)).toNat = q.toNat; rw [eq, h])]
        exact eq
      refine Gx.fin 40 Cs.tt (fun C _ => ?_)
      simp (disch := first | (refine c1_id ?_; assumption) | (refine c1_st rfl ?_; repeat (first | assumption | refine c1_st rfl ?_)) | omega) [nx_l, nx_r, nx_n, x_st, x_push, x_bin, x_div, x_un, x_dup, x_pop, x_dup2, x_goto, x_ifeq, x_ifne, x_iflt, x_ifge, x_ifgt, x_ifle, x_iceq, x_icne, x_iclt, x_icge, x_icgt, x_icle, x_ifnull, x_ifnonnull, x_ldi, x_lda, x_sti, x_sta, x_iinc, x_gf, x_pf, x_ald, x_ast, x_aln, x_len, x_cl_, x_cv, x_cs, x_rc, x_r0, x_isT, x_oi, x_rv, x_ri, x_ra, Value.category, t47_0, t47_1, t47_2, t47_3, t47_4, t47_5, t47_7, t47_10, t47_11, t47_14, t47_15, t47_16, t47_17, t47_20, t47_21, t47_24, t47_25, t47_26, t47_27, t47_30, t47_33, t47_34, lk_s, hp_get, hp_set, uH_at, uH_ne, uH_upd, uH_swap, iZ_add, iZ_sub, iZ_mul, iZ_neg, iZ_lt, iZ_le, iZ_eq, iZ_div, iZ_of, ix_Z, gZ_map, gZ_mapI, gZ_map', le_0, le_s, sZ_map, sZ_len, bZ_0, bZ_inj, bZ_t, bZ_f, nr_i, nr_0, nr_1, nr_b, ft_i, ft_b, ft_0, ft_1, zl_0, zl_1, zl_80, l0, l2, l3, hg, hR, gF_len, gg_0, gg_1, gg_2, gg_3, gg_4, gg_5, gg_6, gg_7, gg_8, gs_7, gs_8, b1, h, e9, -List.filter_filter, -List.getElem?_map, -List.getD_eq_getElem?_getD]
    · have e9 : fdn (fun i => (gZ Ro (i : Int)).toNat) (r + 1) q.toNat = fdn (fun i => (gZ Ro (i : Int)).toNat) r (gZ Ro q).toNat := by
        have : fdn (fun i => (gZ Ro (i : Int)).toNat) (r + 1) q.toNat = fdn (fun i => (gZ Ro (i : Int)).toNat) r (gZ Ro ((q.toNat : Nat) : Int)).toNat := if_neg (by show ¬ (gZ Ro ((q.toNat : Nat) : Int)).toNat = q.toNat; rw [eq]; omega)
        rw [this, eq]
      rw [e9]
      refine Gx.run 40 Cs.tt (fun C _ => ?_) (ih (k + 1) (gZ Ro q) ((3, .int (iZ (k + 1))) :: List.filter (x_keep 3) ((2, .int (iZ (gZ Ro q))) :: List.filter (x_keep 2) lv)) (by omega) (by omega) hq.1 hq.2 (c1_st rfl (c1_st rfl hc)) (by rw [lk_s (c1_st rfl hc), lk_s hc]; exact l0) (by rw [lk_s (c1_st rfl hc), lk_s hc]; rfl) (by rw [lk_s (c1_st rfl hc)]; rfl))
      simp (disch := first | (refine c1_id ?_; assumption) | (refine c1_st rfl ?_; repeat (first | assumption | refine c1_st rfl ?_)) | omega) [nx_l, nx_r, nx_n, x_st, x_push, x_bin, x_div, x_un, x_dup, x_pop, x_dup2, x_goto, x_ifeq, x_ifne, x_iflt, x_ifge, x_ifgt, x_ifle, x_iceq, x_icne, x_iclt, x_icge, x_icgt, x_icle, x_ifnull, x_ifnonnull, x_ldi, x_lda, x_sti, x_sta, x_iinc, x_gf, x_pf, x_ald, x_ast, x_aln, x_len, x_cl_, x_cv, x_cs, x_rc, x_r0, x_isT, x_oi, x_rv, x_ri, x_ra, Value.category, t47_0, t47_1, t47_2, t47_3, t47_4, t47_5, t47_7, t47_10, t47_11, t47_14, t47_15, t47_16, t47_17, t47_20, t47_21, t47_24, t47_25, t47_26, t47_27, t47_30, t47_33, t47_34, lk_s, hp_get, hp_set, uH_at, uH_ne, uH_upd, uH_swap, iZ_add, iZ_sub, iZ_mul, iZ_neg, iZ_lt, iZ_le, iZ_eq, iZ_div, iZ_of, ix_Z, gZ_map, gZ_mapI, gZ_map', le_0, le_s, sZ_map, sZ_len, bZ_0, bZ_inj, bZ_t, bZ_f, nr_i, nr_0, nr_1, nr_b, ft_i, ft_b, ft_0, ft_1, zl_0, zl_1, zl_80, l0, l2, l3, hg, hR, gF_len, gg_0, gg_1, gg_2, gg_3, gg_4, gg_5, gg_6, gg_7, gg_8, gs_7, gs_8, b1, h, -List.filter_filter, -List.getElem?_map, -List.getD_eq_getElem?_getD]
theorem m47 (d : Nat) (hN : 53 ≤ N) (hg : w 16 = gO l wt) (hR : w 19 = cI 0 Ro) (e1 : Ro.length = 80) (hr : ∀ i, 0 ≤ i → i < 80 → 0 ≤ gZ Ro i ∧ gZ Ro i < 80) (p : Int) (p0 : 0 ≤ p) (p1 : p < 80) : Xc (d + 1) 47 [.ref 19, .int (iZ p)] (hp w N) (some (.int (iZ (fdn (fun i => (gZ Ro (i : Int)).toNat) 80 p.toNat))), hp w N) := by
  refine Xc.of rfl (by simp [lg_sl, Value.category]) ?_ (x_le.rf)
  have hc : c1 (lv_args 0 [.ref 19, .int (iZ p)]) := by simp [c1, lv_args, Value.category]
  have l0 : x_lk (lv_args 0 [.ref 19, .int (iZ p)]) 0 = some (.ref 19) := rfl
  have l1 : x_lk (lv_args 0 [.ref 19, .int (iZ p)]) 1 = some (.int (iZ p)) := rfl
  generalize lv_args 0 [.ref 19, .int (iZ p)] = lv at hc l0 l1
  refine Gx.run 20 Cs.tt (fun C _ => ?_) (l47 d hN hg hR e1 hr 80 0 p ((3, .int (iZ 0)) :: List.filter (x_keep 3) ((2, .int (iZ p)) :: List.filter (x_keep 2) lv)) (by omega) (by omega) p0 p1 (c1_st rfl (c1_st rfl hc)) (by rw [lk_s (c1_st rfl hc), lk_s hc]; exact l0) (by rw [lk_s (c1_st rfl hc), lk_s hc]; rfl) (by rw [lk_s (c1_st rfl hc)]; rfl))
  simp (disch := first | (refine c1_id ?_; assumption) | (refine c1_st rfl ?_; repeat (first | assumption | refine c1_st rfl ?_)) | omega) [nx_l, nx_r, nx_n, x_st, x_push, x_bin, x_div, x_un, x_dup, x_pop, x_dup2, x_goto, x_ifeq, x_ifne, x_iflt, x_ifge, x_ifgt, x_ifle, x_iceq, x_icne, x_iclt, x_icge, x_icgt, x_icle, x_ifnull, x_ifnonnull, x_ldi, x_lda, x_sti, x_sta, x_iinc, x_gf, x_pf, x_ald, x_ast, x_aln, x_len, x_cl_, x_cv, x_cs, x_rc, x_r0, x_isT, x_oi, x_rv, x_ri, x_ra, Value.category, t47_0, t47_1, t47_2, t47_3, t47_4, t47_5, t47_7, t47_10, t47_11, t47_14, t47_15, t47_16, t47_17, t47_20, t47_21, t47_24, t47_25, t47_26, t47_27, t47_30, t47_33, t47_34, lk_s, hp_get, hp_set, uH_at, uH_ne, uH_upd, uH_swap, iZ_add, iZ_sub, iZ_mul, iZ_neg, iZ_lt, iZ_le, iZ_eq, iZ_div, iZ_of, ix_Z, gZ_map, gZ_mapI, gZ_map', le_0, le_s, sZ_map, sZ_len, bZ_0, bZ_inj, bZ_t, bZ_f, nr_i, nr_0, nr_1, nr_b, ft_i, ft_b, ft_0, ft_1, zl_0, zl_1, zl_80, l0, l1, -List.filter_filter, -List.getElem?_map, -List.getD_eq_getElem?_getD]
/-- the pairs of terms of two places -/
theorem l46 (d : Nat) (hN : 53 ≤ N) (hE : w 18 = cI 0 Ee) (e1 : Ee.length = 80) (l0_ : 0 ≤ l) (l1_ : l ≤ 80) (hPl : (P.length : Int) = l) (hEe : ∀ i, 0 ≤ i → i < l → gZ Ee i = i + (tm P i.toNat).length) (t : Int) (t0 : 0 ≤ t) (t1 : t ≤ 3) : ∀ (r : Nat) (k x y wt : Int) (Os Ot : List Int) (lv : xL), Os.length = 241 → Ot.length = 241 → k + r = t → 0 ≤ k → 0 ≤ x → 0 ≤ y → Ts r (tk r (P.drop x.toNat)) → Ts r (tk r (P.drop y.toNat)) → 0 ≤ wt → wt + r ≤ 241 → c1 lv → x_lk lv 0 = some (.ref 19) → x_lk lv 3 = some (.int (iZ t)) → x_lk lv 4 = some (.int (iZ x)) → x_lk lv 5 = some (.int (iZ y)) → x_lk lv 6 = some (.int (iZ k)) →
    Gx q_k46 (d + 1) 23 (lv, [], hp (uH (uH (uH w 16 (gO l wt)) 22 (cI 0 Os)) 23 (cI 0 Ot)) N) (none, hp (uH (uH (uH w 16 (gO l (wt + r))) 22 (cI 0 (psh P Os wt r x))) 23 (cI 0 (psh P Ot wt r y))) N) := by
  intro r
  induction r with
  | zero =>
    intro k x y wt Os Ot lv s1 s2 hk k0 x0 y0 Tx Ty w0 w1 hc l0 l3 l4 l5 l6
    refine Gx.fin 20 Cs.tt (fun C _ => ?_)
    have b1 : t ≤ k := by omega
    simp (disch := first | (refine c1_id ?_; assumption) | (refine c1_st rfl ?_; repeat (first | assumption | refine c1_st rfl ?_)) | omega) [nx_l, nx_r, nx_n, x_st, x_push, x_bin, x_div, x_un, x_dup, x_pop, x_dup2, x_goto, x_ifeq, x_ifne, x_iflt, x_ifge, x_ifgt, x_ifle, x_iceq, x_icne, x_iclt, x_icge, x_icgt, x_icle, x_ifnull, x_ifnonnull, x_ldi, x_lda, x_sti, x_sta, x_iinc, x_gf, x_pf, x_ald, x_ast, x_aln, x_len, x_cl_, x_cv, x_cs, x_rc, x_r0, x_isT, x_oi, x_rv, x_ri, x_ra, Value.category, t46_0, t46_1, t46_4, t46_5, t46_6, t46_9, t46_10, t46_11, t46_12, t46_13, t46_15, t46_16, t46_17, t46_18, t46_20, t46_21, t46_23, t46_25, t46_26, t46_29, t46_30, t46_32, t46_34, t46_37, t46_38, t46_40, t46_43, t46_45, t46_46, t46_48, t46_51, t46_53, t46_56, t46_59, lk_s, hp_get, hp_set, uH_at, uH_ne, uH_upd, uH_swap, iZ_add, iZ_sub, iZ_mul, iZ_neg, iZ_lt, iZ_le, iZ_eq, iZ_div, iZ_of, ix_Z, gZ_map, gZ_mapI, gZ_map', le_0, le_s, sZ_map, sZ_len, bZ_0, bZ_inj, bZ_t, bZ_f, nr_i, nr_0, nr_1, nr_b, ft_i, ft_b, ft_0, ft_1, zl_0, zl_1, l0, l3, l6, b1, psh, -List.filter_filter, -List.getElem?_map, -List.getD_eq_getElem?_getD]
  | succ r ih =>
    intro k x y wt Os Ot lv s1 s2 hk k0 x0 y0 Tx Ty w0 w1 hc l0 l3 l4 l5 l6
    have xl : x.toNat < P.length := by
      refine Nat.lt_of_not_le (fun hle => ?_)
      rw [List.drop_eq_nil_of_le hle] at Tx
      exact Ts_ne (n := r) Tx (by cases r <;> rfl)
    have yl : y.toNat < P.length := by
      refine Nat.lt_of_not_le (fun hle => ?_)
      rw [List.drop_eq_nil_of_le hle] at Ty
      exact Ts_ne (n := r) Ty (by cases r <;> rfl)
    rw [Nat.add_comm] at Tx Ty
    obtain ⟨x1, x2, x3⟩ := tk_cut Tx
    obtain ⟨y1, y2, y3⟩ := tk_cut Ty
    rw [List.drop_drop] at x2 y2
    have ex : (x + ((tm P x.toNat).length : Int)).toNat = x.toNat + (tk 1 (P.drop x.toNat)).length := by
      show _ = x.toNat + (tm P x.toNat).length
      omega
    have ey : (y + ((tm P y.toNat).length : Int)).toNat = y.toNat + (tk 1 (P.drop y.toNat)).length := by
      show _ = y.toNat + (tm P y.toNat).length
      omega
    rw [← ex] at x2
    rw [← ey] at y2
    have mj := m45 d (w := uH (uH (uH w 16 (gO l wt)) 22 (cI 0 Os)) 23 (cI 0 Ot)) (N := N) (l := l) (wt := wt) (Os := Os) (Ot := Ot) hN (by rw [uH_ne (by omega), uH_ne (by omega), uH_at]) (by rw [uH_ne (by omega), uH_at]) (by rw [uH_at]) s1 s2 l0_ l1_ w0 (by omega) x y x0 (by omega) y0 (by omega)
    have mx := m43 d (w := uH (uH (uH w 16 (gO l (wt + 1))) 22 (cI 0 (sZ Os wt x))) 23 (cI 0 (sZ Ot wt y))) (N := N) (l := l) (wt := wt + 1) (Ee := Ee) hN (by rw [uH_ne (by omega), uH_ne (by omega), uH_at]) (by rw [uH_ne (by omega), uH_ne (by omega), uH_ne (by omega)]; exact hE) e1 l0_ l1_ x x0 (by omega)
    have my := m43 d (w := uH (uH (uH w 16 (gO l (wt + 1))) 22 (cI 0 (sZ Os wt x))) 23 (cI 0 (sZ Ot wt y))) (N := N) (l := l) (wt := wt + 1) (Ee := Ee) hN (by rw [uH_ne (by omega), uH_ne (by omega), uH_at]) (by rw [uH_ne (by omega), uH_ne (by omega), uH_ne (by omega)]; exact hE) e1 l0_ l1_ y y0 (by omega)
    rw [hEe x x0 (by omega)] at mx
    rw [hEe y y0 (by omega)] at my
    have C1 := c1_st (i := 4) (v := .int (iZ (x + (tm P x.toNat).length))) rfl hc
    have C2 := c1_st (i := 5) (v := .int (iZ (y + (tm P y.toNat).length))) rfl C1
    have C3 := c1_st (i := 6) (v := .int (iZ (k + 1))) rfl C2
    have k3 := ih (k + 1) (x + (tm P x.toNat).length) (y + (tm P y.toNat).length) (wt + 1) (sZ Os wt x) (sZ Ot wt y) _ (by rw [sZ_len]; exact s1) (by rw [sZ_len]; exact s2) (by omega) (by omega) (by omega) (by omega) x2 y2 (by omega) (by omega) C3 (by rw [lk_s C2, lk_s C1, lk_s hc]; exact l0) (by rw [lk_s C2, lk_s C1, lk_s hc]; exact l3) (by rw [lk_s C2, lk_s C1, lk_s hc]; rfl) (by rw [lk_s C2, lk_s C1]; rfl) (by rw [lk_s C2]; rfl)
    rw [show wt + 1 + (r : Int) = wt + ((r + 1 : Nat) : Int) by omega] at k3
    refine Gx.run 60 (mj.and (mx.and my)) (fun C mm => ?_) k3
    obtain ⟨mj, mx, my⟩ := mm
    have b1 : ¬ t ≤ k := by omega
    simp (disch := first | (refine c1_id ?_; assumption) | (refine c1_st rfl ?_; repeat (first | assumption | refine c1_st rfl ?_)) | omega) [nx_l, nx_r, nx_n, x_st, x_push, x_bin, x_div, x_un, x_dup, x_pop, x_dup2, x_goto, x_ifeq, x_ifne, x_iflt, x_ifge, x_ifgt, x_ifle, x_iceq, x_icne, x_iclt, x_icge, x_icgt, x_icle, x_ifnull, x_ifnonnull, x_ldi, x_lda, x_sti, x_sta, x_iinc, x_gf, x_pf, x_ald, x_ast, x_aln, x_len, x_cl_, x_cv, x_cs, x_rc, x_r0, x_isT, x_oi, x_rv, x_ri, x_ra, Value.category, t46_0, t46_1, t46_4, t46_5, t46_6, t46_9, t46_10, t46_11, t46_12, t46_13, t46_15, t46_16, t46_17, t46_18, t46_20, t46_21, t46_23, t46_25, t46_26, t46_29, t46_30, t46_32, t46_34, t46_37, t46_38, t46_40, t46_43, t46_45, t46_46, t46_48, t46_51, t46_53, t46_56, t46_59, lk_s, hp_get, hp_set, uH_at, uH_ne, uH_upd, uH_swap, iZ_add, iZ_sub, iZ_mul, iZ_neg, iZ_lt, iZ_le, iZ_eq, iZ_div, iZ_of, ix_Z, gZ_map, gZ_mapI, gZ_map', le_0, le_s, sZ_map, sZ_len, bZ_0, bZ_inj, bZ_t, bZ_f, nr_i, nr_0, nr_1, nr_b, ft_i, ft_b, ft_0, ft_1, zl_0, zl_1, l0, l3, l4, l5, l6, b1, mj, mx, my, -List.filter_filter, -List.getElem?_map, -List.getD_eq_getElem?_getD]
end GR
