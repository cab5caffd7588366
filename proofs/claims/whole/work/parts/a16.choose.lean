/-! the class: what a rule chooses, the other rules -/
theorem f62_0 : x_fetch q_k62 0 = x_lda 1 0 := rfl
theorem t62_0 (C : xF) (s n : Nat) (z : xS) : x_to q_k62 C s (n + 1) 0 z = x_nx q_k62 C s n ((x_lda 1 0) C z) := x_to_at f62_0 C s n z
theorem f62_1 : x_fetch q_k62 1 = x_lda 2 1 := rfl
theorem t62_1 (C : xF) (s n : Nat) (z : xS) : x_to q_k62 C s (n + 1) 1 z = x_nx q_k62 C s n ((x_lda 2 1) C z) := x_to_at f62_1 C s n z
theorem f62_2 : x_fetch q_k62 2 = x_ldi 3 2 := rfl
theorem t62_2 (C : xF) (s n : Nat) (z : xS) : x_to q_k62 C s (n + 1) 2 z = x_nx q_k62 C s n ((x_ldi 3 2) C z) := x_to_at f62_2 C s n z
theorem f62_3 : x_fetch q_k62 3 = x_cv 6 11 2 4 := rfl
theorem t62_3 (C : xF) (s n : Nat) (z : xS) : x_to q_k62 C s (n + 1) 3 z = x_nx q_k62 C s n ((x_cv 6 11 2 4) C z) := x_to_at f62_3 C s n z
theorem f62_6 : x_fetch q_k62 6 = x_pf 9 2 2 (.int) := rfl
theorem t62_6 (C : xF) (s n : Nat) (z : xS) : x_to q_k62 C s (n + 1) 6 z = x_nx q_k62 C s n ((x_pf 9 2 2 (.int)) C z) := x_to_at f62_6 C s n z
theorem f62_9 : x_fetch q_k62 9 = x_lda 10 0 := rfl
theorem t62_9 (C : xF) (s n : Nat) (z : xS) : x_to q_k62 C s (n + 1) 9 z = x_nx q_k62 C s n ((x_lda 10 0) C z) := x_to_at f62_9 C s n z
theorem f62_10 : x_fetch q_k62 10 = x_lda 11 1 := rfl
theorem t62_10 (C : xF) (s n : Nat) (z : xS) : x_to q_k62 C s (n + 1) 10 z = x_nx q_k62 C s n ((x_lda 11 1) C z) := x_to_at f62_10 C s n z
theorem f62_11 : x_fetch q_k62 11 = x_ldi 12 3 := rfl
theorem t62_11 (C : xF) (s n : Nat) (z : xS) : x_to q_k62 C s (n + 1) 11 z = x_nx q_k62 C s n ((x_ldi 12 3) C z) := x_to_at f62_11 C s n z
theorem f62_12 : x_fetch q_k62 12 = x_cv 15 11 2 4 := rfl
theorem t62_12 (C : xF) (s n : Nat) (z : xS) : x_to q_k62 C s (n + 1) 12 z = x_nx q_k62 C s n ((x_cv 15 11 2 4) C z) := x_to_at f62_12 C s n z
theorem f62_15 : x_fetch q_k62 15 = x_pf 18 2 3 (.int) := rfl
theorem t62_15 (C : xF) (s n : Nat) (z : xS) : x_to q_k62 C s (n + 1) 15 z = x_nx q_k62 C s n ((x_pf 18 2 3 (.int)) C z) := x_to_at f62_15 C s n z
theorem f62_18 : x_fetch q_k62 18 = x_lda 19 0 := rfl
theorem t62_18 (C : xF) (s n : Nat) (z : xS) : x_to q_k62 C s (n + 1) 18 z = x_nx q_k62 C s n ((x_lda 19 0) C z) := x_to_at f62_18 C s n z
theorem f62_19 : x_fetch q_k62 19 = x_lda 20 0 := rfl
theorem t62_19 (C : xF) (s n : Nat) (z : xS) : x_to q_k62 C s (n + 1) 19 z = x_nx q_k62 C s n ((x_lda 20 0) C z) := x_to_at f62_19 C s n z
theorem f62_20 : x_fetch q_k62 20 = x_gf 23 2 3 := rfl
theorem t62_20 (C : xF) (s n : Nat) (z : xS) : x_to q_k62 C s (n + 1) 20 z = x_nx q_k62 C s n ((x_gf 23 2 3) C z) := x_to_at f62_20 C s n z
theorem f62_23 : x_fetch q_k62 23 = x_pf 26 2 4 (.int) := rfl
theorem t62_23 (C : xF) (s n : Nat) (z : xS) : x_to q_k62 C s (n + 1) 23 z = x_nx q_k62 C s n ((x_pf 26 2 4 (.int)) C z) := x_to_at f62_23 C s n z
theorem f62_26 : x_fetch q_k62 26 = x_ldi 27 2 := rfl
theorem t62_26 (C : xF) (s n : Nat) (z : xS) : x_to q_k62 C s (n + 1) 26 z = x_nx q_k62 C s n ((x_ldi 27 2) C z) := x_to_at f62_26 C s n z
theorem f62_27 : x_fetch q_k62 27 = x_ldi 28 3 := rfl
theorem t62_27 (C : xF) (s n : Nat) (z : xS) : x_to q_k62 C s (n + 1) 27 z = x_nx q_k62 C s n ((x_ldi 28 3) C z) := x_to_at f62_27 C s n z
theorem f62_28 : x_fetch q_k62 28 = x_st (x_iceq 50 31) := rfl
theorem t62_28 (C : xF) (s n : Nat) (z : xS) : x_to q_k62 C s (n + 1) 28 z = x_nx q_k62 C s n ((x_st (x_iceq 50 31)) C z) := x_to_at f62_28 C s n z
theorem f62_31 : x_fetch q_k62 31 = x_lda 32 1 := rfl
theorem t62_31 (C : xF) (s n : Nat) (z : xS) : x_to q_k62 C s (n + 1) 31 z = x_nx q_k62 C s n ((x_lda 32 1) C z) := x_to_at f62_31 C s n z
theorem f62_32 : x_fetch q_k62 32 = x_gf 35 4 2 := rfl
theorem t62_32 (C : xF) (s n : Nat) (z : xS) : x_to q_k62 C s (n + 1) 32 z = x_nx q_k62 C s n ((x_gf 35 4 2) C z) := x_to_at f62_32 C s n z
theorem f62_35 : x_fetch q_k62 35 = x_ldi 36 2 := rfl
theorem t62_35 (C : xF) (s n : Nat) (z : xS) : x_to q_k62 C s (n + 1) 35 z = x_nx q_k62 C s n ((x_ldi 36 2) C z) := x_to_at f62_35 C s n z
theorem f62_36 : x_fetch q_k62 36 = x_ald 37 1 := rfl
theorem t62_36 (C : xF) (s n : Nat) (z : xS) : x_to q_k62 C s (n + 1) 36 z = x_nx q_k62 C s n ((x_ald 37 1) C z) := x_to_at f62_36 C s n z
theorem f62_37 : x_fetch q_k62 37 = x_lda 38 1 := rfl
theorem t62_37 (C : xF) (s n : Nat) (z : xS) : x_to q_k62 C s (n + 1) 37 z = x_nx q_k62 C s n ((x_lda 38 1) C z) := x_to_at f62_37 C s n z
theorem f62_38 : x_fetch q_k62 38 = x_gf 41 4 2 := rfl
theorem t62_38 (C : xF) (s n : Nat) (z : xS) : x_to q_k62 C s (n + 1) 38 z = x_nx q_k62 C s n ((x_gf 41 4 2) C z) := x_to_at f62_38 C s n z
theorem f62_41 : x_fetch q_k62 41 = x_ldi 42 3 := rfl
theorem t62_41 (C : xF) (s n : Nat) (z : xS) : x_to q_k62 C s (n + 1) 41 z = x_nx q_k62 C s n ((x_ldi 42 3) C z) := x_to_at f62_41 C s n z
theorem f62_42 : x_fetch q_k62 42 = x_ald 43 1 := rfl
theorem t62_42 (C : xF) (s n : Nat) (z : xS) : x_to q_k62 C s (n + 1) 42 z = x_nx q_k62 C s n ((x_ald 43 1) C z) := x_to_at f62_42 C s n z
theorem f62_43 : x_fetch q_k62 43 = x_st (x_icne 50 46) := rfl
theorem t62_43 (C : xF) (s n : Nat) (z : xS) : x_to q_k62 C s (n + 1) 43 z = x_nx q_k62 C s n ((x_st (x_icne 50 46)) C z) := x_to_at f62_43 C s n z
theorem f62_46 : x_fetch q_k62 46 = x_st (x_push 47 (.int (1))) := rfl
theorem t62_46 (C : xF) (s n : Nat) (z : xS) : x_to q_k62 C s (n + 1) 46 z = x_nx q_k62 C s n ((x_st (x_push 47 (.int (1)))) C z) := x_to_at f62_46 C s n z
theorem f62_47 : x_fetch q_k62 47 = x_st (x_goto 51) := rfl
theorem t62_47 (C : xF) (s n : Nat) (z : xS) : x_to q_k62 C s (n + 1) 47 z = x_nx q_k62 C s n ((x_st (x_goto 51)) C z) := x_to_at f62_47 C s n z
theorem f62_50 : x_fetch q_k62 50 = x_st (x_push 51 (.int (0))) := rfl
theorem t62_50 (C : xF) (s n : Nat) (z : xS) : x_to q_k62 C s (n + 1) 50 z = x_nx q_k62 C s n ((x_st (x_push 51 (.int (0)))) C z) := x_to_at f62_50 C s n z
theorem f62_51 : x_fetch q_k62 51 = x_ri (.boolean) := rfl
theorem t62_51 (C : xF) (s n : Nat) (z : xS) : x_to q_k62 C s (n + 1) 51 z = x_nx q_k62 C s n ((x_ri (.boolean)) C z) := x_to_at f62_51 C s n z
theorem f63_0 : x_fetch q_k63 0 = x_lda 1 0 := rfl
theorem t63_0 (C : xF) (s n : Nat) (z : xS) : x_to q_k63 C s (n + 1) 0 z = x_nx q_k63 C s n ((x_lda 1 0) C z) := x_to_at f63_0 C s n z
theorem f63_1 : x_fetch q_k63 1 = x_lda 2 1 := rfl
theorem t63_1 (C : xF) (s n : Nat) (z : xS) : x_to q_k63 C s (n + 1) 1 z = x_nx q_k63 C s n ((x_lda 2 1) C z) := x_to_at f63_1 C s n z
theorem f63_2 : x_fetch q_k63 2 = x_ldi 3 2 := rfl
theorem t63_2 (C : xF) (s n : Nat) (z : xS) : x_to q_k63 C s (n + 1) 2 z = x_nx q_k63 C s n ((x_ldi 3 2) C z) := x_to_at f63_2 C s n z
theorem f63_3 : x_fetch q_k63 3 = x_cv 6 11 2 4 := rfl
theorem t63_3 (C : xF) (s n : Nat) (z : xS) : x_to q_k63 C s (n + 1) 3 z = x_nx q_k63 C s n ((x_cv 6 11 2 4) C z) := x_to_at f63_3 C s n z
theorem f63_6 : x_fetch q_k63 6 = x_st (x_push 7 (.int (1))) := rfl
theorem t63_6 (C : xF) (s n : Nat) (z : xS) : x_to q_k63 C s (n + 1) 6 z = x_nx q_k63 C s n ((x_st (x_push 7 (.int (1)))) C z) := x_to_at f63_6 C s n z
theorem f63_7 : x_fetch q_k63 7 = x_st (x_bin 8 (fun a b => a + b)) := rfl
theorem t63_7 (C : xF) (s n : Nat) (z : xS) : x_to q_k63 C s (n + 1) 7 z = x_nx q_k63 C s n ((x_st (x_bin 8 (fun a b => a + b))) C z) := x_to_at f63_7 C s n z
theorem f63_8 : x_fetch q_k63 8 = x_pf 11 2 2 (.int) := rfl
theorem t63_8 (C : xF) (s n : Nat) (z : xS) : x_to q_k63 C s (n + 1) 8 z = x_nx q_k63 C s n ((x_pf 11 2 2 (.int)) C z) := x_to_at f63_8 C s n z
theorem f63_11 : x_fetch q_k63 11 = x_lda 12 0 := rfl
theorem t63_11 (C : xF) (s n : Nat) (z : xS) : x_to q_k63 C s (n + 1) 11 z = x_nx q_k63 C s n ((x_lda 12 0) C z) := x_to_at f63_11 C s n z
theorem f63_12 : x_fetch q_k63 12 = x_lda 13 0 := rfl
theorem t63_12 (C : xF) (s n : Nat) (z : xS) : x_to q_k63 C s (n + 1) 12 z = x_nx q_k63 C s n ((x_lda 13 0) C z) := x_to_at f63_12 C s n z
theorem f63_13 : x_fetch q_k63 13 = x_gf 16 2 1 := rfl
theorem t63_13 (C : xF) (s n : Nat) (z : xS) : x_to q_k63 C s (n + 1) 13 z = x_nx q_k63 C s n ((x_gf 16 2 1) C z) := x_to_at f63_13 C s n z
theorem f63_16 : x_fetch q_k63 16 = x_lda 17 0 := rfl
theorem t63_16 (C : xF) (s n : Nat) (z : xS) : x_to q_k63 C s (n + 1) 16 z = x_nx q_k63 C s n ((x_lda 17 0) C z) := x_to_at f63_16 C s n z
theorem f63_17 : x_fetch q_k63 17 = x_gf 20 2 2 := rfl
theorem t63_17 (C : xF) (s n : Nat) (z : xS) : x_to q_k63 C s (n + 1) 17 z = x_nx q_k63 C s n ((x_gf 20 2 2) C z) := x_to_at f63_17 C s n z
theorem f63_20 : x_fetch q_k63 20 = x_cv 23 43 2 5 := rfl
theorem t63_20 (C : xF) (s n : Nat) (z : xS) : x_to q_k63 C s (n + 1) 20 z = x_nx q_k63 C s n ((x_cv 23 43 2 5) C z) := x_to_at f63_20 C s n z
theorem f63_23 : x_fetch q_k63 23 = x_pf 26 2 3 (.int) := rfl
theorem t63_23 (C : xF) (s n : Nat) (z : xS) : x_to q_k63 C s (n + 1) 23 z = x_nx q_k63 C s n ((x_pf 26 2 3 (.int)) C z) := x_to_at f63_23 C s n z
theorem f63_26 : x_fetch q_k63 26 = x_lda 27 1 := rfl
theorem t63_26 (C : xF) (s n : Nat) (z : xS) : x_to q_k63 C s (n + 1) 26 z = x_nx q_k63 C s n ((x_lda 27 1) C z) := x_to_at f63_26 C s n z
theorem f63_27 : x_fetch q_k63 27 = x_gf 30 4 2 := rfl
theorem t63_27 (C : xF) (s n : Nat) (z : xS) : x_to q_k63 C s (n + 1) 27 z = x_nx q_k63 C s n ((x_gf 30 4 2) C z) := x_to_at f63_27 C s n z
theorem f63_30 : x_fetch q_k63 30 = x_ldi 31 2 := rfl
theorem t63_30 (C : xF) (s n : Nat) (z : xS) : x_to q_k63 C s (n + 1) 30 z = x_nx q_k63 C s n ((x_ldi 31 2) C z) := x_to_at f63_30 C s n z
theorem f63_31 : x_fetch q_k63 31 = x_ald 32 1 := rfl
theorem t63_31 (C : xF) (s n : Nat) (z : xS) : x_to q_k63 C s (n + 1) 31 z = x_nx q_k63 C s n ((x_ald 32 1) C z) := x_to_at f63_31 C s n z
theorem f63_32 : x_fetch q_k63 32 = x_st (x_ifeq 47 35) := rfl
theorem t63_32 (C : xF) (s n : Nat) (z : xS) : x_to q_k63 C s (n + 1) 32 z = x_nx q_k63 C s n ((x_st (x_ifeq 47 35)) C z) := x_to_at f63_32 C s n z
theorem f63_35 : x_fetch q_k63 35 = x_lda 36 1 := rfl
theorem t63_35 (C : xF) (s n : Nat) (z : xS) : x_to q_k63 C s (n + 1) 35 z = x_nx q_k63 C s n ((x_lda 36 1) C z) := x_to_at f63_35 C s n z
theorem f63_36 : x_fetch q_k63 36 = x_ldi 37 2 := rfl
theorem t63_36 (C : xF) (s n : Nat) (z : xS) : x_to q_k63 C s (n + 1) 36 z = x_nx q_k63 C s n ((x_ldi 37 2) C z) := x_to_at f63_36 C s n z
theorem f63_37 : x_fetch q_k63 37 = x_cv 40 13 2 4 := rfl
theorem t63_37 (C : xF) (s n : Nat) (z : xS) : x_to q_k63 C s (n + 1) 37 z = x_nx q_k63 C s n ((x_cv 40 13 2 4) C z) := x_to_at f63_37 C s n z
theorem f63_40 : x_fetch q_k63 40 = x_st (x_ifeq 47 43) := rfl
theorem t63_40 (C : xF) (s n : Nat) (z : xS) : x_to q_k63 C s (n + 1) 40 z = x_nx q_k63 C s n ((x_st (x_ifeq 47 43)) C z) := x_to_at f63_40 C s n z
theorem f63_43 : x_fetch q_k63 43 = x_st (x_push 44 (.int (1))) := rfl
theorem t63_43 (C : xF) (s n : Nat) (z : xS) : x_to q_k63 C s (n + 1) 43 z = x_nx q_k63 C s n ((x_st (x_push 44 (.int (1)))) C z) := x_to_at f63_43 C s n z
theorem f63_44 : x_fetch q_k63 44 = x_st (x_goto 48) := rfl
theorem t63_44 (C : xF) (s n : Nat) (z : xS) : x_to q_k63 C s (n + 1) 44 z = x_nx q_k63 C s n ((x_st (x_goto 48)) C z) := x_to_at f63_44 C s n z
theorem f63_47 : x_fetch q_k63 47 = x_st (x_push 48 (.int (0))) := rfl
theorem t63_47 (C : xF) (s n : Nat) (z : xS) : x_to q_k63 C s (n + 1) 47 z = x_nx q_k63 C s n ((x_st (x_push 48 (.int (0)))) C z) := x_to_at f63_47 C s n z
theorem f63_48 : x_fetch q_k63 48 = x_ri (.boolean) := rfl
theorem t63_48 (C : xF) (s n : Nat) (z : xS) : x_to q_k63 C s (n + 1) 48 z = x_nx q_k63 C s n ((x_ri (.boolean)) C z) := x_to_at f63_48 C s n z
theorem f64_0 : x_fetch q_k64 0 = x_lda 1 1 := rfl
theorem t64_0 (C : xF) (s n : Nat) (z : xS) : x_to q_k64 C s (n + 1) 0 z = x_nx q_k64 C s n ((x_lda 1 1) C z) := x_to_at f64_0 C s n z
theorem f64_1 : x_fetch q_k64 1 = x_ldi 2 2 := rfl
theorem t64_1 (C : xF) (s n : Nat) (z : xS) : x_to q_k64 C s (n + 1) 1 z = x_nx q_k64 C s n ((x_ldi 2 2) C z) := x_to_at f64_1 C s n z
theorem f64_2 : x_fetch q_k64 2 = x_cv 5 11 2 4 := rfl
theorem t64_2 (C : xF) (s n : Nat) (z : xS) : x_to q_k64 C s (n + 1) 2 z = x_nx q_k64 C s n ((x_cv 5 11 2 4) C z) := x_to_at f64_2 C s n z
theorem f64_5 : x_fetch q_k64 5 = x_st (x_push 6 (.int (1))) := rfl
theorem t64_5 (C : xF) (s n : Nat) (z : xS) : x_to q_k64 C s (n + 1) 5 z = x_nx q_k64 C s n ((x_st (x_push 6 (.int (1)))) C z) := x_to_at f64_5 C s n z
theorem f64_6 : x_fetch q_k64 6 = x_st (x_bin 7 (fun a b => a + b)) := rfl
theorem t64_6 (C : xF) (s n : Nat) (z : xS) : x_to q_k64 C s (n + 1) 6 z = x_nx q_k64 C s n ((x_st (x_bin 7 (fun a b => a + b))) C z) := x_to_at f64_6 C s n z
theorem f64_7 : x_fetch q_k64 7 = x_sti 9 6 := rfl
theorem t64_7 (C : xF) (s n : Nat) (z : xS) : x_to q_k64 C s (n + 1) 7 z = x_nx q_k64 C s n ((x_sti 9 6) C z) := x_to_at f64_7 C s n z
theorem f64_9 : x_fetch q_k64 9 = x_lda 10 0 := rfl
theorem t64_9 (C : xF) (s n : Nat) (z : xS) : x_to q_k64 C s (n + 1) 9 z = x_nx q_k64 C s n ((x_lda 10 0) C z) := x_to_at f64_9 C s n z
theorem f64_10 : x_fetch q_k64 10 = x_gf 13 2 1 := rfl
theorem t64_10 (C : xF) (s n : Nat) (z : xS) : x_to q_k64 C s (n + 1) 10 z = x_nx q_k64 C s n ((x_gf 13 2 1) C z) := x_to_at f64_10 C s n z
theorem f64_13 : x_fetch q_k64 13 = x_ldi 15 6 := rfl
theorem t64_13 (C : xF) (s n : Nat) (z : xS) : x_to q_k64 C s (n + 1) 13 z = x_nx q_k64 C s n ((x_ldi 15 6) C z) := x_to_at f64_13 C s n z
theorem f64_15 : x_fetch q_k64 15 = x_cv 18 43 2 5 := rfl
theorem t64_15 (C : xF) (s n : Nat) (z : xS) : x_to q_k64 C s (n + 1) 15 z = x_nx q_k64 C s n ((x_cv 18 43 2 5) C z) := x_to_at f64_15 C s n z
theorem f64_18 : x_fetch q_k64 18 = x_sti 20 7 := rfl
theorem t64_18 (C : xF) (s n : Nat) (z : xS) : x_to q_k64 C s (n + 1) 18 z = x_nx q_k64 C s n ((x_sti 20 7) C z) := x_to_at f64_18 C s n z
theorem f64_20 : x_fetch q_k64 20 = x_lda 21 0 := rfl
theorem t64_20 (C : xF) (s n : Nat) (z : xS) : x_to q_k64 C s (n + 1) 20 z = x_nx q_k64 C s n ((x_lda 21 0) C z) := x_to_at f64_20 C s n z
theorem f64_21 : x_fetch q_k64 21 = x_ldi 23 5 := rfl
theorem t64_21 (C : xF) (s n : Nat) (z : xS) : x_to q_k64 C s (n + 1) 21 z = x_nx q_k64 C s n ((x_ldi 23 5) C z) := x_to_at f64_21 C s n z
theorem f64_23 : x_fetch q_k64 23 = x_st (x_push 25 (.int (100))) := rfl
theorem t64_23 (C : xF) (s n : Nat) (z : xS) : x_to q_k64 C s (n + 1) 23 z = x_nx q_k64 C s n ((x_st (x_push 25 (.int (100)))) C z) := x_to_at f64_23 C s n z
theorem f64_25 : x_fetch q_k64 25 = x_st (x_iclt 33 28) := rfl
theorem t64_25 (C : xF) (s n : Nat) (z : xS) : x_to q_k64 C s (n + 1) 25 z = x_nx q_k64 C s n ((x_st (x_iclt 33 28)) C z) := x_to_at f64_25 C s n z
theorem f64_28 : x_fetch q_k64 28 = x_ldi 30 7 := rfl
theorem t64_28 (C : xF) (s n : Nat) (z : xS) : x_to q_k64 C s (n + 1) 28 z = x_nx q_k64 C s n ((x_ldi 30 7) C z) := x_to_at f64_28 C s n z
theorem f64_30 : x_fetch q_k64 30 = x_st (x_goto 35) := rfl
theorem t64_30 (C : xF) (s n : Nat) (z : xS) : x_to q_k64 C s (n + 1) 30 z = x_nx q_k64 C s n ((x_st (x_goto 35)) C z) := x_to_at f64_30 C s n z
theorem f64_33 : x_fetch q_k64 33 = x_ldi 35 6 := rfl
theorem t64_33 (C : xF) (s n : Nat) (z : xS) : x_to q_k64 C s (n + 1) 33 z = x_nx q_k64 C s n ((x_ldi 35 6) C z) := x_to_at f64_33 C s n z
theorem f64_35 : x_fetch q_k64 35 = x_pf 38 2 2 (.int) := rfl
theorem t64_35 (C : xF) (s n : Nat) (z : xS) : x_to q_k64 C s (n + 1) 35 z = x_nx q_k64 C s n ((x_pf 38 2 2 (.int)) C z) := x_to_at f64_35 C s n z
theorem f64_38 : x_fetch q_k64 38 = x_lda 39 0 := rfl
theorem t64_38 (C : xF) (s n : Nat) (z : xS) : x_to q_k64 C s (n + 1) 38 z = x_nx q_k64 C s n ((x_lda 39 0) C z) := x_to_at f64_38 C s n z
theorem f64_39 : x_fetch q_k64 39 = x_ldi 41 5 := rfl
theorem t64_39 (C : xF) (s n : Nat) (z : xS) : x_to q_k64 C s (n + 1) 39 z = x_nx q_k64 C s n ((x_ldi 41 5) C z) := x_to_at f64_39 C s n z
theorem f64_41 : x_fetch q_k64 41 = x_st (x_push 43 (.int (100))) := rfl
theorem t64_41 (C : xF) (s n : Nat) (z : xS) : x_to q_k64 C s (n + 1) 41 z = x_nx q_k64 C s n ((x_st (x_push 43 (.int (100)))) C z) := x_to_at f64_41 C s n z
theorem f64_43 : x_fetch q_k64 43 = x_st (x_iclt 51 46) := rfl
theorem t64_43 (C : xF) (s n : Nat) (z : xS) : x_to q_k64 C s (n + 1) 43 z = x_nx q_k64 C s n ((x_st (x_iclt 51 46)) C z) := x_to_at f64_43 C s n z
theorem f64_46 : x_fetch q_k64 46 = x_ldi 48 6 := rfl
theorem t64_46 (C : xF) (s n : Nat) (z : xS) : x_to q_k64 C s (n + 1) 46 z = x_nx q_k64 C s n ((x_ldi 48 6) C z) := x_to_at f64_46 C s n z
theorem f64_48 : x_fetch q_k64 48 = x_st (x_goto 53) := rfl
theorem t64_48 (C : xF) (s n : Nat) (z : xS) : x_to q_k64 C s (n + 1) 48 z = x_nx q_k64 C s n ((x_st (x_goto 53)) C z) := x_to_at f64_48 C s n z
theorem f64_51 : x_fetch q_k64 51 = x_ldi 53 7 := rfl
theorem t64_51 (C : xF) (s n : Nat) (z : xS) : x_to q_k64 C s (n + 1) 51 z = x_nx q_k64 C s n ((x_ldi 53 7) C z) := x_to_at f64_51 C s n z
theorem f64_53 : x_fetch q_k64 53 = x_pf 56 2 7 (.int) := rfl
theorem t64_53 (C : xF) (s n : Nat) (z : xS) : x_to q_k64 C s (n + 1) 53 z = x_nx q_k64 C s n ((x_pf 56 2 7 (.int)) C z) := x_to_at f64_53 C s n z
theorem f64_56 : x_fetch q_k64 56 = x_lda 57 0 := rfl
theorem t64_56 (C : xF) (s n : Nat) (z : xS) : x_to q_k64 C s (n + 1) 56 z = x_nx q_k64 C s n ((x_lda 57 0) C z) := x_to_at f64_56 C s n z
theorem f64_57 : x_fetch q_k64 57 = x_lda 58 1 := rfl
theorem t64_57 (C : xF) (s n : Nat) (z : xS) : x_to q_k64 C s (n + 1) 57 z = x_nx q_k64 C s n ((x_lda 58 1) C z) := x_to_at f64_57 C s n z
theorem f64_58 : x_fetch q_k64 58 = x_gf 61 4 4 := rfl
theorem t64_58 (C : xF) (s n : Nat) (z : xS) : x_to q_k64 C s (n + 1) 58 z = x_nx q_k64 C s n ((x_gf 61 4 4) C z) := x_to_at f64_58 C s n z
theorem f64_61 : x_fetch q_k64 61 = x_lda 62 3 := rfl
theorem t64_61 (C : xF) (s n : Nat) (z : xS) : x_to q_k64 C s (n + 1) 61 z = x_nx q_k64 C s n ((x_lda 62 3) C z) := x_to_at f64_61 C s n z
theorem f64_62 : x_fetch q_k64 62 = x_ldi 64 4 := rfl
theorem t64_62 (C : xF) (s n : Nat) (z : xS) : x_to q_k64 C s (n + 1) 62 z = x_nx q_k64 C s n ((x_ldi 64 4) C z) := x_to_at f64_62 C s n z
theorem f64_64 : x_fetch q_k64 64 = x_cv 67 11 2 4 := rfl
theorem t64_64 (C : xF) (s n : Nat) (z : xS) : x_to q_k64 C s (n + 1) 64 z = x_nx q_k64 C s n ((x_cv 67 11 2 4) C z) := x_to_at f64_64 C s n z
theorem f64_67 : x_fetch q_k64 67 = x_st (x_bin 68 (fun a b => a + b)) := rfl
theorem t64_67 (C : xF) (s n : Nat) (z : xS) : x_to q_k64 C s (n + 1) 67 z = x_nx q_k64 C s n ((x_st (x_bin 68 (fun a b => a + b))) C z) := x_to_at f64_67 C s n z
theorem f64_68 : x_fetch q_k64 68 = x_st (x_push 69 (.int (1))) := rfl
theorem t64_68 (C : xF) (s n : Nat) (z : xS) : x_to q_k64 C s (n + 1) 68 z = x_nx q_k64 C s n ((x_st (x_push 69 (.int (1)))) C z) := x_to_at f64_68 C s n z
theorem f64_69 : x_fetch q_k64 69 = x_st (x_bin 70 (fun a b => a + b)) := rfl
theorem t64_69 (C : xF) (s n : Nat) (z : xS) : x_to q_k64 C s (n + 1) 69 z = x_nx q_k64 C s n ((x_st (x_bin 70 (fun a b => a + b))) C z) := x_to_at f64_69 C s n z
theorem f64_70 : x_fetch q_k64 70 = x_ldi 72 5 := rfl
theorem t64_70 (C : xF) (s n : Nat) (z : xS) : x_to q_k64 C s (n + 1) 70 z = x_nx q_k64 C s n ((x_ldi 72 5) C z) := x_to_at f64_70 C s n z
theorem f64_72 : x_fetch q_k64 72 = x_cl_ 75 87 1 := rfl
theorem t64_72 (C : xF) (s n : Nat) (z : xS) : x_to q_k64 C s (n + 1) 72 z = x_nx q_k64 C s n ((x_cl_ 75 87 1) C z) := x_to_at f64_72 C s n z
theorem f64_75 : x_fetch q_k64 75 = x_st (x_bin 76 (fun a b => a + b)) := rfl
theorem t64_75 (C : xF) (s n : Nat) (z : xS) : x_to q_k64 C s (n + 1) 75 z = x_nx q_k64 C s n ((x_st (x_bin 76 (fun a b => a + b))) C z) := x_to_at f64_75 C s n z
theorem f64_76 : x_fetch q_k64 76 = x_pf 79 2 6 (.int) := rfl
theorem t64_76 (C : xF) (s n : Nat) (z : xS) : x_to q_k64 C s (n + 1) 76 z = x_nx q_k64 C s n ((x_pf 79 2 6 (.int)) C z) := x_to_at f64_76 C s n z
theorem f64_79 : x_fetch q_k64 79 = x_lda 80 0 := rfl
theorem t64_79 (C : xF) (s n : Nat) (z : xS) : x_to q_k64 C s (n + 1) 79 z = x_nx q_k64 C s n ((x_lda 80 0) C z) := x_to_at f64_79 C s n z
theorem f64_80 : x_fetch q_k64 80 = x_lda 81 0 := rfl
theorem t64_80 (C : xF) (s n : Nat) (z : xS) : x_to q_k64 C s (n + 1) 80 z = x_nx q_k64 C s n ((x_lda 81 0) C z) := x_to_at f64_80 C s n z
theorem f64_81 : x_fetch q_k64 81 = x_gf 84 2 6 := rfl
theorem t64_81 (C : xF) (s n : Nat) (z : xS) : x_to q_k64 C s (n + 1) 81 z = x_nx q_k64 C s n ((x_gf 84 2 6) C z) := x_to_at f64_81 C s n z
theorem f64_84 : x_fetch q_k64 84 = x_pf 87 2 3 (.int) := rfl
theorem t64_84 (C : xF) (s n : Nat) (z : xS) : x_to q_k64 C s (n + 1) 84 z = x_nx q_k64 C s n ((x_pf 87 2 3 (.int)) C z) := x_to_at f64_84 C s n z
theorem f64_87 : x_fetch q_k64 87 = x_lda 88 1 := rfl
theorem t64_87 (C : xF) (s n : Nat) (z : xS) : x_to q_k64 C s (n + 1) 87 z = x_nx q_k64 C s n ((x_lda 88 1) C z) := x_to_at f64_87 C s n z
theorem f64_88 : x_fetch q_k64 88 = x_gf 91 4 2 := rfl
theorem t64_88 (C : xF) (s n : Nat) (z : xS) : x_to q_k64 C s (n + 1) 88 z = x_nx q_k64 C s n ((x_gf 91 4 2) C z) := x_to_at f64_88 C s n z
theorem f64_91 : x_fetch q_k64 91 = x_ldi 92 2 := rfl
theorem t64_91 (C : xF) (s n : Nat) (z : xS) : x_to q_k64 C s (n + 1) 91 z = x_nx q_k64 C s n ((x_ldi 92 2) C z) := x_to_at f64_91 C s n z
theorem f64_92 : x_fetch q_k64 92 = x_ald 93 1 := rfl
theorem t64_92 (C : xF) (s n : Nat) (z : xS) : x_to q_k64 C s (n + 1) 92 z = x_nx q_k64 C s n ((x_ald 93 1) C z) := x_to_at f64_92 C s n z
theorem f64_93 : x_fetch q_k64 93 = x_st (x_ifne 108 96) := rfl
theorem t64_93 (C : xF) (s n : Nat) (z : xS) : x_to q_k64 C s (n + 1) 93 z = x_nx q_k64 C s n ((x_st (x_ifne 108 96)) C z) := x_to_at f64_93 C s n z
theorem f64_96 : x_fetch q_k64 96 = x_lda 97 1 := rfl
theorem t64_96 (C : xF) (s n : Nat) (z : xS) : x_to q_k64 C s (n + 1) 96 z = x_nx q_k64 C s n ((x_lda 97 1) C z) := x_to_at f64_96 C s n z
theorem f64_97 : x_fetch q_k64 97 = x_ldi 98 2 := rfl
theorem t64_97 (C : xF) (s n : Nat) (z : xS) : x_to q_k64 C s (n + 1) 97 z = x_nx q_k64 C s n ((x_ldi 98 2) C z) := x_to_at f64_97 C s n z
theorem f64_98 : x_fetch q_k64 98 = x_cv 101 13 2 4 := rfl
theorem t64_98 (C : xF) (s n : Nat) (z : xS) : x_to q_k64 C s (n + 1) 98 z = x_nx q_k64 C s n ((x_cv 101 13 2 4) C z) := x_to_at f64_98 C s n z
theorem f64_101 : x_fetch q_k64 101 = x_st (x_ifeq 108 104) := rfl
theorem t64_101 (C : xF) (s n : Nat) (z : xS) : x_to q_k64 C s (n + 1) 101 z = x_nx q_k64 C s n ((x_st (x_ifeq 108 104)) C z) := x_to_at f64_101 C s n z
theorem f64_104 : x_fetch q_k64 104 = x_st (x_push 105 (.int (1))) := rfl
theorem t64_104 (C : xF) (s n : Nat) (z : xS) : x_to q_k64 C s (n + 1) 104 z = x_nx q_k64 C s n ((x_st (x_push 105 (.int (1)))) C z) := x_to_at f64_104 C s n z
theorem f64_105 : x_fetch q_k64 105 = x_st (x_goto 109) := rfl
theorem t64_105 (C : xF) (s n : Nat) (z : xS) : x_to q_k64 C s (n + 1) 105 z = x_nx q_k64 C s n ((x_st (x_goto 109)) C z) := x_to_at f64_105 C s n z
theorem f64_108 : x_fetch q_k64 108 = x_st (x_push 109 (.int (0))) := rfl
theorem t64_108 (C : xF) (s n : Nat) (z : xS) : x_to q_k64 C s (n + 1) 108 z = x_nx q_k64 C s n ((x_st (x_push 109 (.int (0)))) C z) := x_to_at f64_108 C s n z
theorem f64_109 : x_fetch q_k64 109 = x_ri (.boolean) := rfl
theorem t64_109 (C : xF) (s n : Nat) (z : xS) : x_to q_k64 C s (n + 1) 109 z = x_nx q_k64 C s n ((x_ri (.boolean)) C z) := x_to_at f64_109 C s n z
section DB
variable {N : Nat} {l wt : Int} {w : Nat → xC} {D D2 : List (Int × List Int)} {a b : Nat} {S E B S2 E2 B2 Ee : List Int} {c o c2 o2 : Int} {q1 q2 q3 q4 q5 q6 : Int}
theorem fo.up11 {c' l' : Int} (h : fo w a S E B c' l' o) (h3 : ∀ j, a ≤ j → j ≤ a + 3 → j ≠ 11) (x : xC) : fo (uH w 11 x) a S E B c' l' o := by
  obtain ⟨x1, x2, x3, x4⟩ := h
  exact ⟨by rw [uH_ne (h3 a (by omega) (by omega))]; exact x1, by rw [uH_ne (h3 _ (by omega) (by omega))]; exact x2, by rw [uH_ne (h3 _ (by omega) (by omega))]; exact x3, by rw [uH_ne (h3 _ (by omega) (by omega))]; exact x4⟩
theorem m62 (d : Nat) (hd : w 11 = dO q1 q2 q3 q4 q5 q6) (h11 : 11 < N) (k k2 : Nat) (hk : k < D.length) (hk2 : k2 < D.length) (h3a : ∀ j, a ≤ j → j ≤ a + 3 → j ≠ 11) (hf : fo w a S E B c (flt D).length o) (hfN : fN N a S E B) (hW : FW D S E B) (hg : gV D) (lE : D.length ≤ E.length) (lB : D.length ≤ B.length) :
    Xc (d + 2) 62 [.ref 14, .ref (a + 3), .int (iZ (k : Int)), .int (iZ (k2 : Int))] (hp w N) (some (.int (iZ (bZ (decide ((k : Int) ≠ (k2 : Int) ∧ (lC D k).1 = (lC D k2).1))))), hp (uH w 11 (dO (stC D k) (stC D k2) (stC D k2) q4 q5 q6)) N) := by
  have kE := hfN.2.2.1
  have kB := hfN.2.2.2
  have na := hfN.1
  have hf2' := hf.up11 h3a (dO (stC D k) q2 q3 q4 q5 q6)
  have X1 := m11 d (k : Int) hf hfN (by omega) (by omega)
  rw [hW.st (by omega)] at X1
  have X2 := m11 d (k2 : Int) hf2' hfN (by omega) (by omega)
  rw [hW.st (by omega)] at X2
  have hB := hW.2.2 k hk
  have hB2 := hW.2.2 k2 hk2
  have s1 := (hg _ (lC_mem hk)).1
  have s2 := (hg _ (lC_mem hk2)).1
  obtain ⟨fa, fs, fe, fg⟩ := hf
  refine Xc.of rfl (by simp [lg_sl, Value.category]) ?_ (hp_up (by rw [hd]; simp [x_c1]))
  have hc : c1 (lv_args 0 [.ref 14, .ref (a + 3), .int (iZ (k : Int)), .int (iZ (k2 : Int))]) := by simp [c1, lv_args, Value.category]
  have l0 : x_lk (lv_args 0 [.ref 14, .ref (a + 3), .int (iZ (k : Int)), .int (iZ (k2 : Int))]) 0 = some (.ref 14) := rfl
  have l1 : x_lk (lv_args 0 [.ref 14, .ref (a + 3), .int (iZ (k : Int)), .int (iZ (k2 : Int))]) 1 = some (.ref (a + 3)) := rfl
  have l2 : x_lk (lv_args 0 [.ref 14, .ref (a + 3), .int (iZ (k : Int)), .int (iZ (k2 : Int))]) 2 = some (.int (iZ (k : Int))) := rfl
  have l3 : x_lk (lv_args 0 [.ref 14, .ref (a + 3), .int (iZ (k : Int)), .int (iZ (k2 : Int))]) 3 = some (.int (iZ (k2 : Int))) := rfl
  generalize lv_args 0 [.ref 14, .ref (a + 3), .int (iZ (k : Int)), .int (iZ (k2 : Int))] = lv at hc l0 l1 l2 l3
  refine Gx.fin 60 (X1.and X2) (fun X mm => ?_)
  obtain ⟨mm1, mm2⟩ := mm
  have ka : (k : Int) < B.length := by omega
  have kb : (k2 : Int) < B.length := by omega
  obtain ⟨i, hi⟩ : ∃ i : Int, i = (k : Int) := ⟨_, rfl⟩
  obtain ⟨j, hj⟩ : ∃ j : Int, j = (k2 : Int) := ⟨_, rfl⟩
  rw [← hi] at mm1 hB ka l2 ⊢
  rw [← hj] at mm2 hB2 kb l3 ⊢
  have i0 : 0 ≤ i := by omega
  have j0 : 0 ≤ j := by omega
  generalize (lC D k).1 = u at *
  generalize (lC D k2).1 = v at *
  have a11 := h3a a (by omega) (by omega)
  have a11' := h3a (a + 3) (by omega) (by omega)
  have u0 : 0 ≤ u := by omega
  have u1 : u ≤ 1 := by omega
  have v0 : 0 ≤ v := by omega
  have v1 : v ≤ 1 := by omega
  by_cases hij : i = j
  · rw [decide_eq_false (fun z => z.1 hij), bZ_f]
    rw [hij] at mm1 l2
    simp (disch := first | (refine c1_id ?_; assumption) | (refine c1_st rfl ?_; repeat (first | assumption | refine c1_st rfl ?_)) | omega) [nx_l, nx_r, nx_n, x_st, x_push, x_bin, x_div, x_un, x_dup, x_pop, x_dup2, x_goto, x_ifeq, x_ifne, x_iflt, x_ifge, x_ifgt, x_ifle, x_iceq, x_icne, x_iclt, x_icge, x_icgt, x_icle, x_ifnull, x_ifnonnull, x_ldi, x_lda, x_sti, x_sta, x_iinc, x_gf, x_pf, x_ald, x_ast, x_aln, x_len, x_cl_, x_cv, x_cs, x_rc, x_r0, x_isT, x_oi, x_rv, x_ri, x_ra, Value.category, t62_0, t62_1, t62_2, t62_3, t62_6, t62_9, t62_10, t62_11, t62_12, t62_15, t62_18, t62_19, t62_20, t62_23, t62_26, t62_27, t62_28, t62_31, t62_32, t62_35, t62_36, t62_37, t62_38, t62_41, t62_42, t62_43, t62_46, t62_47, t62_50, t62_51, lk_s, hp_get, hp_set, uH_at, uH_ne, uH_upd, uH_swap, iZ_add, iZ_sub, iZ_mul, iZ_neg, iZ_lt, iZ_le, iZ_eq, iZ_div, iZ_of, ix_Z, gZ_map, gZ_mapI, gZ_map', le_0, le_s, sZ_map, sZ_len, bZ_0, bZ_inj, bZ_t, bZ_f, nr_i, nr_0, nr_1, nr_b, ft_i, ft_b, ft_0, ft_1, zl_0, zl_1, l0, l1, l2, l3, hd, fa, fg, hB2, mm1, mm2, dO, -List.filter_filter, -List.getElem?_map, -List.getD_eq_getElem?_getD]
  · by_cases huv : u = v
    · rw [decide_eq_true ⟨hij, huv⟩, bZ_t]
      simp (disch := first | (refine c1_id ?_; assumption) | (refine c1_st rfl ?_; repeat (first | assumption | refine c1_st rfl ?_)) | omega) [nx_l, nx_r, nx_n, x_st, x_push, x_bin, x_div, x_un, x_dup, x_pop, x_dup2, x_goto, x_ifeq, x_ifne, x_iflt, x_ifge, x_ifgt, x_ifle, x_iceq, x_icne, x_iclt, x_icge, x_icgt, x_icle, x_ifnull, x_ifnonnull, x_ldi, x_lda, x_sti, x_sta, x_iinc, x_gf, x_pf, x_ald, x_ast, x_aln, x_len, x_cl_, x_cv, x_cs, x_rc, x_r0, x_isT, x_oi, x_rv, x_ri, x_ra, Value.category, t62_0, t62_1, t62_2, t62_3, t62_6, t62_9, t62_10, t62_11, t62_12, t62_15, t62_18, t62_19, t62_20, t62_23, t62_26, t62_27, t62_28, t62_31, t62_32, t62_35, t62_36, t62_37, t62_38, t62_41, t62_42, t62_43, t62_46, t62_47, t62_50, t62_51, lk_s, hp_get, hp_set, uH_at, uH_ne, uH_upd, uH_swap, iZ_add, iZ_sub, iZ_mul, iZ_neg, iZ_lt, iZ_le, iZ_eq, iZ_div, iZ_of, ix_Z, gZ_map, gZ_mapI, gZ_map', le_0, le_s, sZ_map, sZ_len, bZ_0, bZ_inj, bZ_t, bZ_f, nr_i, nr_0, nr_1, nr_b, ft_i, ft_b, ft_0, ft_1, zl_0, zl_1, l0, l1, l2, l3, hd, fa, fg, hB, hB2, hij, huv, mm1, mm2, dO, -List.filter_filter, -List.getElem?_map, -List.getD_eq_getElem?_getD]
    · rw [decide_eq_false (fun z => huv z.2), bZ_f]
      simp (disch := first | (refine c1_id ?_; assumption) | (refine c1_st rfl ?_; repeat (first | assumption | refine c1_st rfl ?_)) | omega) [nx_l, nx_r, nx_n, x_st, x_push, x_bin, x_div, x_un, x_dup, x_pop, x_dup2, x_goto, x_ifeq, x_ifne, x_iflt, x_ifge, x_ifgt, x_ifle, x_iceq, x_icne, x_iclt, x_icge, x_icgt, x_icle, x_ifnull, x_ifnonnull, x_ldi, x_lda, x_sti, x_sta, x_iinc, x_gf, x_pf, x_ald, x_ast, x_aln, x_len, x_cl_, x_cv, x_cs, x_rc, x_r0, x_isT, x_oi, x_rv, x_ri, x_ra, Value.category, t62_0, t62_1, t62_2, t62_3, t62_6, t62_9, t62_10, t62_11, t62_12, t62_15, t62_18, t62_19, t62_20, t62_23, t62_26, t62_27, t62_28, t62_31, t62_32, t62_35, t62_36, t62_37, t62_38, t62_41, t62_42, t62_43, t62_46, t62_47, t62_50, t62_51, lk_s, hp_get, hp_set, uH_at, uH_ne, uH_upd, uH_swap, iZ_add, iZ_sub, iZ_mul, iZ_neg, iZ_lt, iZ_le, iZ_eq, iZ_div, iZ_of, ix_Z, gZ_map, gZ_mapI, gZ_map', le_0, le_s, sZ_map, sZ_len, bZ_0, bZ_inj, bZ_t, bZ_f, nr_i, nr_0, nr_1, nr_b, ft_i, ft_b, ft_0, ft_1, zl_0, zl_1, l0, l1, l2, l3, hd, fa, fg, hB, hB2, hij, huv, mm1, mm2, dO, -List.filter_filter, -List.getElem?_map, -List.getD_eq_getElem?_getD]
theorem X13 (d : Nat) (k : Nat) (hk : k < D.length) (hf : fo w a S E B c (flt D).length o) (hfN : fN N a S E B) (hW : FW D S E B) (hg : gV D) (lE : D.length ≤ E.length) (lS : (flt D).length ≤ S.length) (hne : 0 < (lC D k).2.length) : Xc (d + 2) 13 [.ref (a + 3), .int (iZ (k : Int))] (hp w N) (some (.int (iZ (bZ (decide ((lC D k).2.getD 0 0 = 99))))), hp w N) := by
  have hst := hW.st (k := k) (by omega)
  have hlt := stC_lt (i := 0) hk hne
  have hat := hW.at (i := 0) hk hne
  rw [show ((stC D k : Int) + ((0 : Nat) : Int)) = (stC D k : Int) by omega] at hat
  have hsg := (hg _ (lC_mem hk)).2 _ (getD_mem hne)
  have hvr := vc_rng hsg
  have X := m13 d (k : Int) hf hfN (by omega) (by omega) (by rw [hst]; omega) (by rw [hst]; omega) (by rw [hst, hat]; omega) (by rw [hst, hat]; omega)
  rw [hst, hat] at X
  have e : decide (vc ((lC D k).2.getD 0 0) = 106) = decide ((lC D k).2.getD 0 0 = 99) := by
    rw [decide_eq_decide]
    unfold vc
    obtain ⟨p1, p2, p3⟩ := hsg
    constructor
    · intro z
      split at z
      · omega
      · split at z
        · assumption
        · omega
    · intro z
      rw [z]
      decide
  rw [e] at X
  exact X
theorem m63 (d : Nat) (hN : 53 ≤ N) (hd : w 11 = dO q1 q2 q3 q4 q5 q6) (k : Nat) (hk : k < D.length) (h3a : ∀ j, a ≤ j → j ≤ a + 3 → j ≠ 11) (hf : fo w a S E B c (flt D).length o) (hfN : fN N a S E B) (hW : FW D S E B) (hg : gV D) (lE : D.length ≤ E.length) (lB : D.length ≤ B.length) (lS : (flt D).length ≤ S.length) (f9 : (flt D).length ≤ 40) (hne : 0 < (lC D k).2.length) (hgr : w 16 = gO l wt) (hE : w 18 = cI 0 Ee) (e1 : Ee.length = 80) (l0_ : 0 ≤ l) (l1_ : l ≤ 80) :
    Xc (d + 3) 63 [.ref 14, .ref (a + 3), .int (iZ (k : Int))] (hp w N) (some (.int (iZ (bZ (decide ((lC D k).2.getD 0 0 = 99 ∧ (lC D k).1 = 1))))), hp (uH w 11 (dO (stC D k + 1) (endZ Ee l (stC D k + 1)) q3 q4 q5 q6)) N) := by
  have kE := hfN.2.2.1
  have kB := hfN.2.2.2
  have na := hfN.1
  have hlt := stC_lt (i := 0) hk hne
  have X1 := m11 (d + 1) (k : Int) hf hfN (by omega) (by omega)
  rw [hW.st (by omega)] at X1
  obtain ⟨st, hst⟩ : ∃ st : Int, st = (stC D k : Int) := ⟨_, rfl⟩
  rw [← hst] at X1 ⊢
  obtain ⟨w1, hw1⟩ : ∃ w1, w1 = uH w 11 (dO (st + 1) q2 q3 q4 q5 q6) := ⟨_, rfl⟩
  have hg1 : w1 16 = gO l wt := by rw [hw1, uH_ne (by decide)]; exact hgr
  have X2 := m43b (w := w1) (N := N) (d + 1) hN hg1 (by rw [hw1, uH_ne (by decide)]; exact hE) e1 l0_ l1_ (st + 1) (by omega) (by omega)
  obtain ⟨w2, hw2⟩ : ∃ w2, w2 = uH w 11 (dO (st + 1) (endZ Ee l (st + 1)) q3 q4 q5 q6) := ⟨_, rfl⟩
  have hf2 : fo w2 a S E B c (flt D).length o := by rw [hw2]; exact hf.up11 h3a _
  have X3 := X13 (d := d) k hk hf2 hfN hW hg lE lS hne
  have hB := hW.2.2 k hk
  have s1 := (hg _ (lC_mem hk)).1
  obtain ⟨fa, fs, fe, fg⟩ := hf
  rw [hw1] at X2
  rw [hw2] at X3
  generalize endZ Ee l (st + 1) = en at *
  refine Xc.of rfl (by simp [lg_sl, Value.category]) ?_ (hp_up (by rw [hd]; simp [x_c1]))
  have hc : c1 (lv_args 0 [.ref 14, .ref (a + 3), .int (iZ (k : Int))]) := by simp [c1, lv_args, Value.category]
  have l0 : x_lk (lv_args 0 [.ref 14, .ref (a + 3), .int (iZ (k : Int))]) 0 = some (.ref 14) := rfl
  have l1 : x_lk (lv_args 0 [.ref 14, .ref (a + 3), .int (iZ (k : Int))]) 1 = some (.ref (a + 3)) := rfl
  have l2 : x_lk (lv_args 0 [.ref 14, .ref (a + 3), .int (iZ (k : Int))]) 2 = some (.int (iZ (k : Int))) := rfl
  generalize lv_args 0 [.ref 14, .ref (a + 3), .int (iZ (k : Int))] = lv at hc l0 l1 l2
  refine Gx.fin 60 ((X1.and X2).and X3) (fun X mm => ?_)
  obtain ⟨⟨mm1, mm2⟩, mm3⟩ := mm
  have ka : (k : Int) < B.length := by omega
  obtain ⟨i, hi⟩ : ∃ i : Int, i = (k : Int) := ⟨_, rfl⟩
  rw [← hi] at mm1 mm3 hB ka l2
  have i0 : 0 ≤ i := by omega
  generalize (lC D k).1 = u at *
  have a11 := h3a a (by omega) (by omega)
  have a11' := h3a (a + 3) (by omega) (by omega)
  have u0 : 0 ≤ u := by omega
  have u1 : u ≤ 1 := by omega
  by_cases hu : u = 0
  · rw [decide_eq_false (fun z => by omega), bZ_f]
    simp (disch := first | (refine c1_id ?_; assumption) | (refine c1_st rfl ?_; repeat (first | assumption | refine c1_st rfl ?_)) | omega) [nx_l, nx_r, nx_n, x_st, x_push, x_bin, x_div, x_un, x_dup, x_pop, x_dup2, x_goto, x_ifeq, x_ifne, x_iflt, x_ifge, x_ifgt, x_ifle, x_iceq, x_icne, x_iclt, x_icge, x_icgt, x_icle, x_ifnull, x_ifnonnull, x_ldi, x_lda, x_sti, x_sta, x_iinc, x_gf, x_pf, x_ald, x_ast, x_aln, x_len, x_cl_, x_cv, x_cs, x_rc, x_r0, x_isT, x_oi, x_rv, x_ri, x_ra, Value.category, t63_0, t63_1, t63_2, t63_3, t63_6, t63_7, t63_8, t63_11, t63_12, t63_13, t63_16, t63_17, t63_20, t63_23, t63_26, t63_27, t63_30, t63_31, t63_32, t63_35, t63_36, t63_37, t63_40, t63_43, t63_44, t63_47, t63_48, lk_s, hp_get, hp_set, uH_at, uH_ne, uH_upd, uH_swap, iZ_add, iZ_sub, iZ_mul, iZ_neg, iZ_lt, iZ_le, iZ_eq, iZ_div, iZ_of, ix_Z, gZ_map, gZ_mapI, gZ_map', le_0, le_s, sZ_map, sZ_len, bZ_0, bZ_inj, bZ_t, bZ_f, nr_i, nr_0, nr_1, nr_b, ft_i, ft_b, ft_0, ft_1, zl_0, zl_1, l0, l1, l2, hd, fa, fg, hB, hu, hgr, mm1, mm2, mm3, dO, gO, -List.filter_filter, -List.getElem?_map, -List.getD_eq_getElem?_getD]
  · have hu1 : u = 1 := by omega
    by_cases h99 : (lC D k).2.getD 0 0 = 99
    · rw [decide_eq_true h99, bZ_t] at mm3
      rw [decide_eq_true ⟨h99, hu1⟩, bZ_t]
      simp (disch := first | (refine c1_id ?_; assumption) | (refine c1_st rfl ?_; repeat (first | assumption | refine c1_st rfl ?_)) | omega) [nx_l, nx_r, nx_n, x_st, x_push, x_bin, x_div, x_un, x_dup, x_pop, x_dup2, x_goto, x_ifeq, x_ifne, x_iflt, x_ifge, x_ifgt, x_ifle, x_iceq, x_icne, x_iclt, x_icge, x_icgt, x_icle, x_ifnull, x_ifnonnull, x_ldi, x_lda, x_sti, x_sta, x_iinc, x_gf, x_pf, x_ald, x_ast, x_aln, x_len, x_cl_, x_cv, x_cs, x_rc, x_r0, x_isT, x_oi, x_rv, x_ri, x_ra, Value.category, t63_0, t63_1, t63_2, t63_3, t63_6, t63_7, t63_8, t63_11, t63_12, t63_13, t63_16, t63_17, t63_20, t63_23, t63_26, t63_27, t63_30, t63_31, t63_32, t63_35, t63_36, t63_37, t63_40, t63_43, t63_44, t63_47, t63_48, lk_s, hp_get, hp_set, uH_at, uH_ne, uH_upd, uH_swap, iZ_add, iZ_sub, iZ_mul, iZ_neg, iZ_lt, iZ_le, iZ_eq, iZ_div, iZ_of, ix_Z, gZ_map, gZ_mapI, gZ_map', le_0, le_s, sZ_map, sZ_len, bZ_0, bZ_inj, bZ_t, bZ_f, nr_i, nr_0, nr_1, nr_b, ft_i, ft_b, ft_0, ft_1, zl_0, zl_1, l0, l1, l2, hd, fa, fg, hB, hu1, hgr, mm1, mm2, mm3, dO, gO, -List.filter_filter, -List.getElem?_map, -List.getD_eq_getElem?_getD]
    · rw [decide_eq_false h99, bZ_f] at mm3
      rw [decide_eq_false (fun z => h99 z.1), bZ_f]
      simp (disch := first | (refine c1_id ?_; assumption) | (refine c1_st rfl ?_; repeat (first | assumption | refine c1_st rfl ?_)) | omega) [nx_l, nx_r, nx_n, x_st, x_push, x_bin, x_div, x_un, x_dup, x_pop, x_dup2, x_goto, x_ifeq, x_ifne, x_iflt, x_ifge, x_ifgt, x_ifle, x_iceq, x_icne, x_iclt, x_icge, x_icgt, x_icle, x_ifnull, x_ifnonnull, x_ldi, x_lda, x_sti, x_sta, x_iinc, x_gf, x_pf, x_ald, x_ast, x_aln, x_len, x_cl_, x_cv, x_cs, x_rc, x_r0, x_isT, x_oi, x_rv, x_ri, x_ra, Value.category, t63_0, t63_1, t63_2, t63_3, t63_6, t63_7, t63_8, t63_11, t63_12, t63_13, t63_16, t63_17, t63_20, t63_23, t63_26, t63_27, t63_30, t63_31, t63_32, t63_35, t63_36, t63_37, t63_40, t63_43, t63_44, t63_47, t63_48, lk_s, hp_get, hp_set, uH_at, uH_ne, uH_upd, uH_swap, iZ_add, iZ_sub, iZ_mul, iZ_neg, iZ_lt, iZ_le, iZ_eq, iZ_div, iZ_of, ix_Z, gZ_map, gZ_mapI, gZ_map', le_0, le_s, sZ_map, sZ_len, bZ_0, bZ_inj, bZ_t, bZ_f, nr_i, nr_0, nr_1, nr_b, ft_i, ft_b, ft_0, ft_1, zl_0, zl_1, l0, l1, l2, hd, fa, fg, hB, hu1, hgr, mm1, mm2, mm3, dO, gO, -List.filter_filter, -List.getElem?_map, -List.getD_eq_getElem?_getD]
theorem m64 (d : Nat) (hN : 53 ≤ N) (hd : w 11 = dO q1 q2 q3 q4 q5 q6) (k k2 : Nat) (hk : k < D.length) (hk2 : k2 < D2.length) (p : Int) (p0 : 0 ≤ p) (p1 : plQ p < 100) (p2 : p < 2147483648) (h3a : ∀ j, a ≤ j → j ≤ a + 3 → j ≠ 11) (h3b : ∀ j, b ≤ j → j ≤ b + 3 → j ≠ 11) (hf : fo w a S E B c (flt D).length o) (hfN : fN N a S E B) (hW : FW D S E B) (hg : gV D) (lE : D.length ≤ E.length) (lB : D.length ≤ B.length) (lS : (flt D).length ≤ S.length) (f9 : (flt D).length ≤ 40) (hne : 0 < (lC D k).2.length) (hgr : w 16 = gO l wt) (hE : w 18 = cI 0 Ee) (e1 : Ee.length = 80) (l0_ : 0 ≤ l) (l1_ : l ≤ 80) (hf2 : fo w b S2 E2 B2 c2 (flt D2).length o2) (hfN2 : fN N b S2 E2 B2) (hW2 : FW D2 S2 E2 B2) (lE2 : D2.length ≤ E2.length) (f92 : (flt D2).length ≤ 40) :
    Xc (d + 3) 64 [.ref 14, .ref (a + 3), .int (iZ (k : Int)), .ref (b + 3), .int (iZ (k2 : Int)), .int (iZ p)] (hp w N) (some (.int (iZ (bZ (decide ((lC D k).2.getD 0 0 = 99 ∧ (lC D k).1 = 0))))), hp (uH w 11 (dO (if 100 ≤ p then endZ Ee l (stC D k + 1) else stC D k + 1) ((flt D).length + stC D2 k2 + 1 + plQ p) q3 q4 ((flt D).length + stC D2 k2 + 1 + plQ p) (if 100 ≤ p then stC D k + 1 else endZ Ee l (stC D k + 1)))) N) := by
  have kE := hfN.2.2.1
  have kB := hfN.2.2.2
  have na := hfN.1
  have kE2 := hfN2.2.2.1
  have nb := hfN2.1
  have hlt := stC_lt (i := 0) hk hne
  have hlt2 : stC D2 k2 ≤ (flt D2).length := by rw [← stC_all D2]; exact stC_mono (by omega)
  have X1 := m11 (d + 1) (k : Int) hf hfN (by omega) (by omega)
  rw [hW.st (by omega)] at X1
  obtain ⟨st, hst⟩ : ∃ st : Int, st = (stC D k : Int) := ⟨_, rfl⟩
  rw [← hst] at X1 ⊢
  have X2 := m43b (N := N) (d + 1) hN hgr hE e1 l0_ l1_ (st + 1) (by omega) (by omega)
  generalize endZ Ee l (st + 1) = en at *
  obtain ⟨on, hon⟩ : ∃ on : Int, on = if 100 ≤ p then en else st + 1 := ⟨_, rfl⟩
  obtain ⟨fl, hfl⟩ : ∃ fl : Int, fl = if 100 ≤ p then st + 1 else en := ⟨_, rfl⟩
  rw [← hon, ← hfl]
  have X4 := m11 (d + 1) (k2 : Int) (hf2.up11 h3b (dO on q2 q3 q4 q5 fl)) hfN2 (by omega) (by omega)
  rw [hW2.st (by omega)] at X4
  obtain ⟨s2, hs2⟩ : ∃ s2 : Int, s2 = (stC D2 k2 : Int) := ⟨_, rfl⟩
  rw [← hs2] at X4 ⊢
  have X5 := m87 (d + 1) (uH w 11 (dO on q2 q3 q4 q5 fl)) N p (by omega) (by omega)
  have pq : 0 ≤ plQ p := by unfold plQ; split <;> omega
  obtain ⟨pp, hpp⟩ : ∃ pp : Int, pp = plQ p := ⟨_, rfl⟩
  rw [← hpp] at X5 p1 pq ⊢
  obtain ⟨n, hn⟩ : ∃ n : Int, n = ((flt D).length : Int) := ⟨_, rfl⟩
  have X3 := X13 (d := d) k hk (hf.up11 h3a (dO on (n + s2 + 1 + pp) q3 q4 (n + s2 + 1 + pp) fl)) hfN hW hg lE lS hne
  have hB := hW.2.2 k hk
  have s1 := (hg _ (lC_mem hk)).1
  obtain ⟨fa, fs, fe, fg⟩ := hf
  obtain ⟨fa2, fs2, fe2, fg2⟩ := hf2
  rw [← hn] at fa ⊢
  refine Xc.of rfl (by simp [lg_sl, Value.category]) ?_ (hp_up (by rw [hd]; simp [x_c1]))
  have hc : c1 (lv_args 0 [.ref 14, .ref (a + 3), .int (iZ (k : Int)), .ref (b + 3), .int (iZ (k2 : Int)), .int (iZ p)]) := by simp [c1, lv_args, Value.category]
  have l0 : x_lk (lv_args 0 [.ref 14, .ref (a + 3), .int (iZ (k : Int)), .ref (b + 3), .int (iZ (k2 : Int)), .int (iZ p)]) 0 = some (.ref 14) := rfl
  have l1 : x_lk (lv_args 0 [.ref 14, .ref (a + 3), .int (iZ (k : Int)), .ref (b + 3), .int (iZ (k2 : Int)), .int (iZ p)]) 1 = some (.ref (a + 3)) := rfl
  have l2 : x_lk (lv_args 0 [.ref 14, .ref (a + 3), .int (iZ (k : Int)), .ref (b + 3), .int (iZ (k2 : Int)), .int (iZ p)]) 2 = some (.int (iZ (k : Int))) := rfl
  have l3 : x_lk (lv_args 0 [.ref 14, .ref (a + 3), .int (iZ (k : Int)), .ref (b + 3), .int (iZ (k2 : Int)), .int (iZ p)]) 3 = some (.ref (b + 3)) := rfl
  have l4 : x_lk (lv_args 0 [.ref 14, .ref (a + 3), .int (iZ (k : Int)), .ref (b + 3), .int (iZ (k2 : Int)), .int (iZ p)]) 4 = some (.int (iZ (k2 : Int))) := rfl
  have l5 : x_lk (lv_args 0 [.ref 14, .ref (a + 3), .int (iZ (k : Int)), .ref (b + 3), .int (iZ (k2 : Int)), .int (iZ p)]) 5 = some (.int (iZ p)) := rfl
  generalize lv_args 0 [.ref 14, .ref (a + 3), .int (iZ (k : Int)), .ref (b + 3), .int (iZ (k2 : Int)), .int (iZ p)] = lv at hc l0 l1 l2 l3 l4 l5
  have ka : (k : Int) < B.length := by omega
  obtain ⟨i, hi⟩ : ∃ i : Int, i = (k : Int) := ⟨_, rfl⟩
  obtain ⟨j, hj⟩ : ∃ j : Int, j = (k2 : Int) := ⟨_, rfl⟩
  rw [← hi] at X1 X3 hB ka l2
  rw [← hj] at X4 l4
  have i0 : 0 ≤ i := by omega
  generalize (lC D k).1 = u at *
  have a11 := h3a a (by omega) (by omega)
  have a11' := h3a (a + 3) (by omega) (by omega)
  have b11 := h3b b (by omega) (by omega)
  have u0 : 0 ≤ u := by omega
  have u1 : u ≤ 1 := by omega
  have C6 := c1_st (i := 6) (v := .int (iZ (st + 1))) rfl hc
  have C7 := c1_st (i := 7) (v := .int (iZ en)) rfl C6
  have k0 : x_lk ((7, .int (iZ en)) :: List.filter (x_keep 7) ((6, .int (iZ (st + 1))) :: lv.filter (x_keep 6))) 0 = some (.ref 14) := by rw [lk_s C6, lk_s hc]; exact l0
  have k1 : x_lk ((7, .int (iZ en)) :: List.filter (x_keep 7) ((6, .int (iZ (st + 1))) :: lv.filter (x_keep 6))) 1 = some (.ref (a + 3)) := by rw [lk_s C6, lk_s hc]; exact l1
  have k2_ : x_lk ((7, .int (iZ en)) :: List.filter (x_keep 7) ((6, .int (iZ (st + 1))) :: lv.filter (x_keep 6))) 2 = some (.int (iZ i)) := by rw [lk_s C6, lk_s hc]; exact l2
  have k3 : x_lk ((7, .int (iZ en)) :: List.filter (x_keep 7) ((6, .int (iZ (st + 1))) :: lv.filter (x_keep 6))) 3 = some (.ref (b + 3)) := by rw [lk_s C6, lk_s hc]; exact l3
  have k4 : x_lk ((7, .int (iZ en)) :: List.filter (x_keep 7) ((6, .int (iZ (st + 1))) :: lv.filter (x_keep 6))) 4 = some (.int (iZ j)) := by rw [lk_s C6, lk_s hc]; exact l4
  have k5 : x_lk ((7, .int (iZ en)) :: List.filter (x_keep 7) ((6, .int (iZ (st + 1))) :: lv.filter (x_keep 6))) 5 = some (.int (iZ p)) := by rw [lk_s C6, lk_s hc]; exact l5
  have k6 : x_lk ((7, .int (iZ en)) :: List.filter (x_keep 7) ((6, .int (iZ (st + 1))) :: lv.filter (x_keep 6))) 6 = some (.int (iZ (st + 1))) := by rw [lk_s C6, lk_s hc]; rfl
  have k7 : x_lk ((7, .int (iZ en)) :: List.filter (x_keep 7) ((6, .int (iZ (st + 1))) :: lv.filter (x_keep 6))) 7 = some (.int (iZ en)) := by rw [lk_s C6]; rfl
  have g20 : ∀ res, Gx q_k64 (d + 2) 20 ((7, .int (iZ en)) :: List.filter (x_keep 7) ((6, .int (iZ (st + 1))) :: lv.filter (x_keep 6)), [], hp w N) res → Gx q_k64 (d + 2) 0 (lv, [], hp w N) res := fun res hres => by
    refine Gx.run 40 (X1.and X2) (fun X mm => ?_) hres
    obtain ⟨mm1, mm2⟩ := mm
    simp (disch := first | (refine c1_id ?_; assumption) | (refine c1_st rfl ?_; repeat (first | assumption | refine c1_st rfl ?_)) | omega) [nx_l, nx_r, nx_n, x_st, x_push, x_bin, x_div, x_un, x_dup, x_pop, x_dup2, x_goto, x_ifeq, x_ifne, x_iflt, x_ifge, x_ifgt, x_ifle, x_iceq, x_icne, x_iclt, x_icge, x_icgt, x_icle, x_ifnull, x_ifnonnull, x_ldi, x_lda, x_sti, x_sta, x_iinc, x_gf, x_pf, x_ald, x_ast, x_aln, x_len, x_cl_, x_cv, x_cs, x_rc, x_r0, x_isT, x_oi, x_rv, x_ri, x_ra, Value.category, t64_0, t64_1, t64_2, t64_5, t64_6, t64_7, t64_9, t64_10, t64_13, t64_15, t64_18, t64_20, t64_21, t64_23, t64_25, t64_28, t64_30, t64_33, t64_35, t64_38, t64_39, t64_41, t64_43, t64_46, t64_48, t64_51, t64_53, t64_56, t64_57, t64_58, t64_61, t64_62, t64_64, t64_67, t64_68, t64_69, t64_70, t64_72, t64_75, t64_76, t64_79, t64_80, t64_81, t64_84, t64_87, t64_88, t64_91, t64_92, t64_93, t64_96, t64_97, t64_98, t64_101, t64_104, t64_105, t64_108, t64_109, lk_s, hp_get, hp_set, uH_at, uH_ne, uH_upd, uH_swap, iZ_add, iZ_sub, iZ_mul, iZ_neg, iZ_lt, iZ_le, iZ_eq, iZ_div, iZ_of, ix_Z, gZ_map, gZ_mapI, gZ_map', le_0, le_s, sZ_map, sZ_len, bZ_0, bZ_inj, bZ_t, bZ_f, nr_i, nr_0, nr_1, nr_b, ft_i, ft_b, ft_0, ft_1, zl_0, zl_1, zl_100, l0, l1, l2, hd, fa, hgr, mm1, mm2, dO, gO, -List.filter_filter, -List.getElem?_map, -List.getD_eq_getElem?_getD]
  refine g20 _ ?_
  generalize ((7, .int (iZ en)) :: List.filter (x_keep 7) ((6, .int (iZ (st + 1))) :: lv.filter (x_keep 6)) : xL) = lv7 at C7 k0 k1 k2_ k3 k4 k5 k6 k7
  have g56 : ∀ res, Gx q_k64 (d + 2) 56 (lv7, [], hp (uH w 11 (dO on q2 q3 q4 q5 fl)) N) res → Gx q_k64 (d + 2) 20 (lv7, [], hp w N) res := fun res hres => by
    refine Gx.run 40 Cs.tt (fun X mm => ?_) hres
    by_cases h100 : 100 ≤ p
    · rw [if_pos h100] at hon hfl
      rw [hon, hfl]
      have h100' : ¬ p < 100 := by omega
      simp (disch := first | (refine c1_id ?_; assumption) | (refine c1_st rfl ?_; repeat (first | assumption | refine c1_st rfl ?_)) | omega) [nx_l, nx_r, nx_n, x_st, x_push, x_bin, x_div, x_un, x_dup, x_pop, x_dup2, x_goto, x_ifeq, x_ifne, x_iflt, x_ifge, x_ifgt, x_ifle, x_iceq, x_icne, x_iclt, x_icge, x_icgt, x_icle, x_ifnull, x_ifnonnull, x_ldi, x_lda, x_sti, x_sta, x_iinc, x_gf, x_pf, x_ald, x_ast, x_aln, x_len, x_cl_, x_cv, x_cs, x_rc, x_r0, x_isT, x_oi, x_rv, x_ri, x_ra, Value.category, t64_0, t64_1, t64_2, t64_5, t64_6, t64_7, t64_9, t64_10, t64_13, t64_15, t64_18, t64_20, t64_21, t64_23, t64_25, t64_28, t64_30, t64_33, t64_35, t64_38, t64_39, t64_41, t64_43, t64_46, t64_48, t64_51, t64_53, t64_56, t64_57, t64_58, t64_61, t64_62, t64_64, t64_67, t64_68, t64_69, t64_70, t64_72, t64_75, t64_76, t64_79, t64_80, t64_81, t64_84, t64_87, t64_88, t64_91, t64_92, t64_93, t64_96, t64_97, t64_98, t64_101, t64_104, t64_105, t64_108, t64_109, lk_s, hp_get, hp_set, uH_at, uH_ne, uH_upd, uH_swap, iZ_add, iZ_sub, iZ_mul, iZ_neg, iZ_lt, iZ_le, iZ_eq, iZ_div, iZ_of, ix_Z, gZ_map, gZ_mapI, gZ_map', le_0, le_s, sZ_map, sZ_len, bZ_0, bZ_inj, bZ_t, bZ_f, nr_i, nr_0, nr_1, nr_b, ft_i, ft_b, ft_0, ft_1, zl_0, zl_1, zl_100, k0, k5, k6, k7, hd, h100', dO, -List.filter_filter, -List.getElem?_map, -List.getD_eq_getElem?_getD]
    · rw [if_neg h100] at hon hfl
      rw [hon, hfl]
      have h100' : p < 100 := by omega
      simp (disch := first | (refine c1_id ?_; assumption) | (refine c1_st rfl ?_; repeat (first | assumption | refine c1_st rfl ?_)) | omega) [nx_l, nx_r, nx_n, x_st, x_push, x_bin, x_div, x_un, x_dup, x_pop, x_dup2, x_goto, x_ifeq, x_ifne, x_iflt, x_ifge, x_ifgt, x_ifle, x_iceq, x_icne, x_iclt, x_icge, x_icgt, x_icle, x_ifnull, x_ifnonnull, x_ldi, x_lda, x_sti, x_sta, x_iinc, x_gf, x_pf, x_ald, x_ast, x_aln, x_len, x_cl_, x_cv, x_cs, x_rc, x_r0, x_isT, x_oi, x_rv, x_ri, x_ra, Value.category, t64_0, t64_1, t64_2, t64_5, t64_6, t64_7, t64_9, t64_10, t64_13, t64_15, t64_18, t64_20, t64_21, t64_23, t64_25, t64_28, t64_30, t64_33, t64_35, t64_38, t64_39, t64_41, t64_43, t64_46, t64_48, t64_51, t64_53, t64_56, t64_57, t64_58, t64_61, t64_62, t64_64, t64_67, t64_68, t64_69, t64_70, t64_72, t64_75, t64_76, t64_79, t64_80, t64_81, t64_84, t64_87, t64_88, t64_91, t64_92, t64_93, t64_96, t64_97, t64_98, t64_101, t64_104, t64_105, t64_108, t64_109, lk_s, hp_get, hp_set, uH_at, uH_ne, uH_upd, uH_swap, iZ_add, iZ_sub, iZ_mul, iZ_neg, iZ_lt, iZ_le, iZ_eq, iZ_div, iZ_of, ix_Z, gZ_map, gZ_mapI, gZ_map', le_0, le_s, sZ_map, sZ_len, bZ_0, bZ_inj, bZ_t, bZ_f, nr_i, nr_0, nr_1, nr_b, ft_i, ft_b, ft_0, ft_1, zl_0, zl_1, zl_100, k0, k5, k6, k7, hd, h100', dO, -List.filter_filter, -List.getElem?_map, -List.getD_eq_getElem?_getD]
  refine g56 _ ?_
  refine Gx.fin 80 ((X4.and X5).and X3) (fun X mm => ?_)
  obtain ⟨⟨mm4, mm5⟩, mm3⟩ := mm
  by_cases hu : u = 0
  · by_cases h99 : (lC D k).2.getD 0 0 = 99
    · rw [decide_eq_true h99, bZ_t] at mm3
      rw [decide_eq_true ⟨h99, hu⟩, bZ_t]
      simp (disch := first | (refine c1_id ?_; assumption) | (refine c1_st rfl ?_; repeat (first | assumption | refine c1_st rfl ?_)) | omega) [nx_l, nx_r, nx_n, x_st, x_push, x_bin, x_div, x_un, x_dup, x_pop, x_dup2, x_goto, x_ifeq, x_ifne, x_iflt, x_ifge, x_ifgt, x_ifle, x_iceq, x_icne, x_iclt, x_icge, x_icgt, x_icle, x_ifnull, x_ifnonnull, x_ldi, x_lda, x_sti, x_sta, x_iinc, x_gf, x_pf, x_ald, x_ast, x_aln, x_len, x_cl_, x_cv, x_cs, x_rc, x_r0, x_isT, x_oi, x_rv, x_ri, x_ra, Value.category, t64_0, t64_1, t64_2, t64_5, t64_6, t64_7, t64_9, t64_10, t64_13, t64_15, t64_18, t64_20, t64_21, t64_23, t64_25, t64_28, t64_30, t64_33, t64_35, t64_38, t64_39, t64_41, t64_43, t64_46, t64_48, t64_51, t64_53, t64_56, t64_57, t64_58, t64_61, t64_62, t64_64, t64_67, t64_68, t64_69, t64_70, t64_72, t64_75, t64_76, t64_79, t64_80, t64_81, t64_84, t64_87, t64_88, t64_91, t64_92, t64_93, t64_96, t64_97, t64_98, t64_101, t64_104, t64_105, t64_108, t64_109, lk_s, hp_get, hp_set, uH_at, uH_ne, uH_upd, uH_swap, iZ_add, iZ_sub, iZ_mul, iZ_neg, iZ_lt, iZ_le, iZ_eq, iZ_div, iZ_of, ix_Z, gZ_map, gZ_mapI, gZ_map', le_0, le_s, sZ_map, sZ_len, bZ_0, bZ_inj, bZ_t, bZ_f, nr_i, nr_0, nr_1, nr_b, ft_i, ft_b, ft_0, ft_1, zl_0, zl_1, zl_100, k0, k1, k2_, k3, k4, k5, hd, fa, fa2, fg, hB, hu, mm4, mm5, mm3, dO, -List.filter_filter, -List.getElem?_map, -List.getD_eq_getElem?_getD]
    · rw [decide_eq_false h99, bZ_f] at mm3
      rw [decide_eq_false (fun z => h99 z.1), bZ_f]
      simp (disch := first | (refine c1_id ?_; assumption) | (refine c1_st rfl ?_; repeat (first | assumption | refine c1_st rfl ?_)) | omega) [nx_l, nx_r, nx_n, x_st, x_push, x_bin, x_div, x_un, x_dup, x_pop, x_dup2, x_goto, x_ifeq, x_ifne, x_iflt, x_ifge, x_ifgt, x_ifle, x_iceq, x_icne, x_iclt, x_icge, x_icgt, x_icle, x_ifnull, x_ifnonnull, x_ldi, x_lda, x_sti, x_sta, x_iinc, x_gf, x_pf, x_ald, x_ast, x_aln, x_len, x_cl_, x_cv, x_cs, x_rc, x_r0, x_isT, x_oi, x_rv, x_ri, x_ra, Value.category, t64_0, t64_1, t64_2, t64_5, t64_6, t64_7, t64_9, t64_10, t64_13, t64_15, t64_18, t64_20, t64_21, t64_23, t64_25, t64_28, t64_30, t64_33, t64_35, t64_38, t64_39, t64_41, t64_43, t64_46, t64_48, t64_51, t64_53, t64_56, t64_57, t64_58, t64_61, t64_62, t64_64, t64_67, t64_68, t64_69, t64_70, t64_72, t64_75, t64_76, t64_79, t64_80, t64_81, t64_84, t64_87, t64_88, t64_91, t64_92, t64_93, t64_96, t64_97, t64_98, t64_101, t64_104, t64_105, t64_108, t64_109, lk_s, hp_get, hp_set, uH_at, uH_ne, uH_upd, uH_swap, iZ_add, iZ_sub, iZ_mul, iZ_neg, iZ_lt, iZ_le, iZ_eq, iZ_div, iZ_of, ix_Z, gZ_map, gZ_mapI, gZ_map', le_0, le_s, sZ_map, sZ_len, bZ_0, bZ_inj, bZ_t, bZ_f, nr_i, nr_0, nr_1, nr_b, ft_i, ft_b, ft_0, ft_1, zl_0, zl_1, zl_100, k0, k1, k2_, k3, k4, k5, hd, fa, fa2, fg, hB, hu, mm4, mm5, mm3, dO, -List.filter_filter, -List.getElem?_map, -List.getD_eq_getElem?_getD]
  · have hu1 : u = 1 := by omega
    rw [decide_eq_false (fun z => hu z.2), bZ_f]
    simp (disch := first | (refine c1_id ?_; assumption) | (refine c1_st rfl ?_; repeat (first | assumption | refine c1_st rfl ?_)) | omega) [nx_l, nx_r, nx_n, x_st, x_push, x_bin, x_div, x_un, x_dup, x_pop, x_dup2, x_goto, x_ifeq, x_ifne, x_iflt, x_ifge, x_ifgt, x_ifle, x_iceq, x_icne, x_iclt, x_icge, x_icgt, x_icle, x_ifnull, x_ifnonnull, x_ldi, x_lda, x_sti, x_sta, x_iinc, x_gf, x_pf, x_ald, x_ast, x_aln, x_len, x_cl_, x_cv, x_cs, x_rc, x_r0, x_isT, x_oi, x_rv, x_ri, x_ra, Value.category, t64_0, t64_1, t64_2, t64_5, t64_6, t64_7, t64_9, t64_10, t64_13, t64_15, t64_18, t64_20, t64_21, t64_23, t64_25, t64_28, t64_30, t64_33, t64_35, t64_38, t64_39, t64_41, t64_43, t64_46, t64_48, t64_51, t64_53, t64_56, t64_57, t64_58, t64_61, t64_62, t64_64, t64_67, t64_68, t64_69, t64_70, t64_72, t64_75, t64_76, t64_79, t64_80, t64_81, t64_84, t64_87, t64_88, t64_91, t64_92, t64_93, t64_96, t64_97, t64_98, t64_101, t64_104, t64_105, t64_108, t64_109, lk_s, hp_get, hp_set, uH_at, uH_ne, uH_upd, uH_swap, iZ_add, iZ_sub, iZ_mul, iZ_neg, iZ_lt, iZ_le, iZ_eq, iZ_div, iZ_of, ix_Z, gZ_map, gZ_mapI, gZ_map', le_0, le_s, sZ_map, sZ_len, bZ_0, bZ_inj, bZ_t, bZ_f, nr_i, nr_0, nr_1, nr_b, ft_i, ft_b, ft_0, ft_1, zl_0, zl_1, zl_100, k0, k1, k2_, k3, k4, k5, hd, fa, fa2, fg, hB, hu1, mm4, mm5, mm3, dO, -List.filter_filter, -List.getElem?_map, -List.getD_eq_getElem?_getD]
end DB
