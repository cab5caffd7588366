/-! the class: a term is copied out of the graph -/
theorem f50_0 : x_fetch q_k50 0 = x_ldi 1 1 := rfl
theorem t50_0 (C : xF) (s n : Nat) (z : xS) : x_to q_k50 C s (n + 1) 0 z = x_nx q_k50 C s n ((x_ldi 1 1) C z) := x_to_at f50_0 C s n z
theorem f50_1 : x_fetch q_k50 1 = x_sti 3 4 := rfl
theorem t50_1 (C : xF) (s n : Nat) (z : xS) : x_to q_k50 C s (n + 1) 1 z = x_nx q_k50 C s n ((x_sti 3 4) C z) := x_to_at f50_1 C s n z
theorem f50_3 : x_fetch q_k50 3 = x_ldi 5 4 := rfl
theorem t50_3 (C : xF) (s n : Nat) (z : xS) : x_to q_k50 C s (n + 1) 3 z = x_nx q_k50 C s n ((x_ldi 5 4) C z) := x_to_at f50_3 C s n z
theorem f50_5 : x_fetch q_k50 5 = x_ldi 6 2 := rfl
theorem t50_5 (C : xF) (s n : Nat) (z : xS) : x_to q_k50 C s (n + 1) 5 z = x_nx q_k50 C s n ((x_ldi 6 2) C z) := x_to_at f50_5 C s n z
theorem f50_6 : x_fetch q_k50 6 = x_st (x_icge 72 9) := rfl
theorem t50_6 (C : xF) (s n : Nat) (z : xS) : x_to q_k50 C s (n + 1) 6 z = x_nx q_k50 C s n ((x_st (x_icge 72 9)) C z) := x_to_at f50_6 C s n z
theorem f50_9 : x_fetch q_k50 9 = x_ldi 11 4 := rfl
theorem t50_9 (C : xF) (s n : Nat) (z : xS) : x_to q_k50 C s (n + 1) 9 z = x_nx q_k50 C s n ((x_ldi 11 4) C z) := x_to_at f50_9 C s n z
theorem f50_11 : x_fetch q_k50 11 = x_lda 12 0 := rfl
theorem t50_11 (C : xF) (s n : Nat) (z : xS) : x_to q_k50 C s (n + 1) 11 z = x_nx q_k50 C s n ((x_lda 12 0) C z) := x_to_at f50_11 C s n z
theorem f50_12 : x_fetch q_k50 12 = x_gf 15 5 7 := rfl
theorem t50_12 (C : xF) (s n : Nat) (z : xS) : x_to q_k50 C s (n + 1) 12 z = x_nx q_k50 C s n ((x_gf 15 5 7) C z) := x_to_at f50_12 C s n z
theorem f50_15 : x_fetch q_k50 15 = x_st (x_icge 72 18) := rfl
theorem t50_15 (C : xF) (s n : Nat) (z : xS) : x_to q_k50 C s (n + 1) 15 z = x_nx q_k50 C s n ((x_st (x_icge 72 18)) C z) := x_to_at f50_15 C s n z
theorem f50_18 : x_fetch q_k50 18 = x_lda 19 0 := rfl
theorem t50_18 (C : xF) (s n : Nat) (z : xS) : x_to q_k50 C s (n + 1) 18 z = x_nx q_k50 C s n ((x_lda 19 0) C z) := x_to_at f50_18 C s n z
theorem f50_19 : x_fetch q_k50 19 = x_gf 22 5 0 := rfl
theorem t50_19 (C : xF) (s n : Nat) (z : xS) : x_to q_k50 C s (n + 1) 19 z = x_nx q_k50 C s n ((x_gf 22 5 0) C z) := x_to_at f50_19 C s n z
theorem f50_22 : x_fetch q_k50 22 = x_ldi 24 4 := rfl
theorem t50_22 (C : xF) (s n : Nat) (z : xS) : x_to q_k50 C s (n + 1) 22 z = x_nx q_k50 C s n ((x_ldi 24 4) C z) := x_to_at f50_22 C s n z
theorem f50_24 : x_fetch q_k50 24 = x_ald 25 0 := rfl
theorem t50_24 (C : xF) (s n : Nat) (z : xS) : x_to q_k50 C s (n + 1) 24 z = x_nx q_k50 C s n ((x_ald 25 0) C z) := x_to_at f50_24 C s n z
theorem f50_25 : x_fetch q_k50 25 = x_cl_ 28 2 1 := rfl
theorem t50_25 (C : xF) (s n : Nat) (z : xS) : x_to q_k50 C s (n + 1) 25 z = x_nx q_k50 C s n ((x_cl_ 28 2 1) C z) := x_to_at f50_25 C s n z
theorem f50_28 : x_fetch q_k50 28 = x_st (x_ifeq 46 31) := rfl
theorem t50_28 (C : xF) (s n : Nat) (z : xS) : x_to q_k50 C s (n + 1) 28 z = x_nx q_k50 C s n ((x_st (x_ifeq 46 31)) C z) := x_to_at f50_28 C s n z
theorem f50_31 : x_fetch q_k50 31 = x_lda 32 0 := rfl
theorem t50_31 (C : xF) (s n : Nat) (z : xS) : x_to q_k50 C s (n + 1) 31 z = x_nx q_k50 C s n ((x_lda 32 0) C z) := x_to_at f50_31 C s n z
theorem f50_32 : x_fetch q_k50 32 = x_lda 33 0 := rfl
theorem t50_32 (C : xF) (s n : Nat) (z : xS) : x_to q_k50 C s (n + 1) 32 z = x_nx q_k50 C s n ((x_lda 33 0) C z) := x_to_at f50_32 C s n z
theorem f50_33 : x_fetch q_k50 33 = x_gf 36 5 2 := rfl
theorem t50_33 (C : xF) (s n : Nat) (z : xS) : x_to q_k50 C s (n + 1) 33 z = x_nx q_k50 C s n ((x_gf 36 5 2) C z) := x_to_at f50_33 C s n z
theorem f50_36 : x_fetch q_k50 36 = x_ldi 38 4 := rfl
theorem t50_36 (C : xF) (s n : Nat) (z : xS) : x_to q_k50 C s (n + 1) 36 z = x_nx q_k50 C s n ((x_ldi 38 4) C z) := x_to_at f50_36 C s n z
theorem f50_38 : x_fetch q_k50 38 = x_ald 39 0 := rfl
theorem t50_38 (C : xF) (s n : Nat) (z : xS) : x_to q_k50 C s (n + 1) 38 z = x_nx q_k50 C s n ((x_ald 39 0) C z) := x_to_at f50_38 C s n z
theorem f50_39 : x_fetch q_k50 39 = x_lda 40 3 := rfl
theorem t50_39 (C : xF) (s n : Nat) (z : xS) : x_to q_k50 C s (n + 1) 39 z = x_nx q_k50 C s n ((x_lda 40 3) C z) := x_to_at f50_39 C s n z
theorem f50_40 : x_fetch q_k50 40 = x_cv 43 51 3 5 := rfl
theorem t50_40 (C : xF) (s n : Nat) (z : xS) : x_to q_k50 C s (n + 1) 40 z = x_nx q_k50 C s n ((x_cv 43 51 3 5) C z) := x_to_at f50_40 C s n z
theorem f50_43 : x_fetch q_k50 43 = x_st (x_goto 57) := rfl
theorem t50_43 (C : xF) (s n : Nat) (z : xS) : x_to q_k50 C s (n + 1) 43 z = x_nx q_k50 C s n ((x_st (x_goto 57)) C z) := x_to_at f50_43 C s n z
theorem f50_46 : x_fetch q_k50 46 = x_lda 47 3 := rfl
theorem t50_46 (C : xF) (s n : Nat) (z : xS) : x_to q_k50 C s (n + 1) 46 z = x_nx q_k50 C s n ((x_lda 47 3) C z) := x_to_at f50_46 C s n z
theorem f50_47 : x_fetch q_k50 47 = x_lda 48 0 := rfl
theorem t50_47 (C : xF) (s n : Nat) (z : xS) : x_to q_k50 C s (n + 1) 47 z = x_nx q_k50 C s n ((x_lda 48 0) C z) := x_to_at f50_47 C s n z
theorem f50_48 : x_fetch q_k50 48 = x_gf 51 5 0 := rfl
theorem t50_48 (C : xF) (s n : Nat) (z : xS) : x_to q_k50 C s (n + 1) 48 z = x_nx q_k50 C s n ((x_gf 51 5 0) C z) := x_to_at f50_48 C s n z
theorem f50_51 : x_fetch q_k50 51 = x_ldi 53 4 := rfl
theorem t50_51 (C : xF) (s n : Nat) (z : xS) : x_to q_k50 C s (n + 1) 51 z = x_nx q_k50 C s n ((x_ldi 53 4) C z) := x_to_at f50_51 C s n z
theorem f50_53 : x_fetch q_k50 53 = x_ald 54 0 := rfl
theorem t50_53 (C : xF) (s n : Nat) (z : xS) : x_to q_k50 C s (n + 1) 53 z = x_nx q_k50 C s n ((x_ald 54 0) C z) := x_to_at f50_53 C s n z
theorem f50_54 : x_fetch q_k50 54 = x_cv 57 16 2 4 := rfl
theorem t50_54 (C : xF) (s n : Nat) (z : xS) : x_to q_k50 C s (n + 1) 54 z = x_nx q_k50 C s n ((x_cv 57 16 2 4) C z) := x_to_at f50_54 C s n z
theorem f50_57 : x_fetch q_k50 57 = x_sti 59 5 := rfl
theorem t50_57 (C : xF) (s n : Nat) (z : xS) : x_to q_k50 C s (n + 1) 57 z = x_nx q_k50 C s n ((x_sti 59 5) C z) := x_to_at f50_57 C s n z
theorem f50_59 : x_fetch q_k50 59 = x_ldi 61 5 := rfl
theorem t50_59 (C : xF) (s n : Nat) (z : xS) : x_to q_k50 C s (n + 1) 59 z = x_nx q_k50 C s n ((x_ldi 61 5) C z) := x_to_at f50_59 C s n z
theorem f50_61 : x_fetch q_k50 61 = x_st (x_ifne 66 64) := rfl
theorem t50_61 (C : xF) (s n : Nat) (z : xS) : x_to q_k50 C s (n + 1) 61 z = x_nx q_k50 C s n ((x_st (x_ifne 66 64)) C z) := x_to_at f50_61 C s n z
theorem f50_64 : x_fetch q_k50 64 = x_st (x_push 65 (.int (0))) := rfl
theorem t50_64 (C : xF) (s n : Nat) (z : xS) : x_to q_k50 C s (n + 1) 64 z = x_nx q_k50 C s n ((x_st (x_push 65 (.int (0)))) C z) := x_to_at f50_64 C s n z
theorem f50_65 : x_fetch q_k50 65 = x_ri (.boolean) := rfl
theorem t50_65 (C : xF) (s n : Nat) (z : xS) : x_to q_k50 C s (n + 1) 65 z = x_nx q_k50 C s n ((x_ri (.boolean)) C z) := x_to_at f50_65 C s n z
theorem f50_66 : x_fetch q_k50 66 = x_iinc 69 4 (1) := rfl
theorem t50_66 (C : xF) (s n : Nat) (z : xS) : x_to q_k50 C s (n + 1) 66 z = x_nx q_k50 C s n ((x_iinc 69 4 (1)) C z) := x_to_at f50_66 C s n z
theorem f50_69 : x_fetch q_k50 69 = x_st (x_goto 3) := rfl
theorem t50_69 (C : xF) (s n : Nat) (z : xS) : x_to q_k50 C s (n + 1) 69 z = x_nx q_k50 C s n ((x_st (x_goto 3)) C z) := x_to_at f50_69 C s n z
theorem f50_72 : x_fetch q_k50 72 = x_st (x_push 73 (.int (1))) := rfl
theorem t50_72 (C : xF) (s n : Nat) (z : xS) : x_to q_k50 C s (n + 1) 72 z = x_nx q_k50 C s n ((x_st (x_push 73 (.int (1)))) C z) := x_to_at f50_72 C s n z
theorem f50_73 : x_fetch q_k50 73 = x_ri (.boolean) := rfl
theorem t50_73 (C : xF) (s n : Nat) (z : xS) : x_to q_k50 C s (n + 1) 73 z = x_nx q_k50 C s n ((x_ri (.boolean)) C z) := x_to_at f50_73 C s n z
theorem f51_0 : x_fetch q_k51 0 = x_lda 1 0 := rfl
theorem t51_0 (C : xF) (s n : Nat) (z : xS) : x_to q_k51 C s (n + 1) 0 z = x_nx q_k51 C s n ((x_lda 1 0) C z) := x_to_at f51_0 C s n z
theorem f51_1 : x_fetch q_k51 1 = x_gf 4 5 5 := rfl
theorem t51_1 (C : xF) (s n : Nat) (z : xS) : x_to q_k51 C s (n + 1) 1 z = x_nx q_k51 C s n ((x_gf 4 5 5) C z) := x_to_at f51_1 C s n z
theorem f51_4 : x_fetch q_k51 4 = x_st (x_push 5 (.int (0))) := rfl
theorem t51_4 (C : xF) (s n : Nat) (z : xS) : x_to q_k51 C s (n + 1) 4 z = x_nx q_k51 C s n ((x_st (x_push 5 (.int (0)))) C z) := x_to_at f51_4 C s n z
theorem f51_5 : x_fetch q_k51 5 = x_ldi 6 1 := rfl
theorem t51_5 (C : xF) (s n : Nat) (z : xS) : x_to q_k51 C s (n + 1) 5 z = x_nx q_k51 C s n ((x_ldi 6 1) C z) := x_to_at f51_5 C s n z
theorem f51_6 : x_fetch q_k51 6 = x_ast 7 0 (fun x => x) := rfl
theorem t51_6 (C : xF) (s n : Nat) (z : xS) : x_to q_k51 C s (n + 1) 6 z = x_nx q_k51 C s n ((x_ast 7 0 (fun x => x)) C z) := x_to_at f51_6 C s n z
theorem f51_7 : x_fetch q_k51 7 = x_lda 8 0 := rfl
theorem t51_7 (C : xF) (s n : Nat) (z : xS) : x_to q_k51 C s (n + 1) 7 z = x_nx q_k51 C s n ((x_lda 8 0) C z) := x_to_at f51_7 C s n z
theorem f51_8 : x_fetch q_k51 8 = x_st (x_push 9 (.int (1))) := rfl
theorem t51_8 (C : xF) (s n : Nat) (z : xS) : x_to q_k51 C s (n + 1) 8 z = x_nx q_k51 C s n ((x_st (x_push 9 (.int (1)))) C z) := x_to_at f51_8 C s n z
theorem f51_9 : x_fetch q_k51 9 = x_pf 12 5 8 (.int) := rfl
theorem t51_9 (C : xF) (s n : Nat) (z : xS) : x_to q_k51 C s (n + 1) 9 z = x_nx q_k51 C s n ((x_pf 12 5 8 (.int)) C z) := x_to_at f51_9 C s n z
theorem f51_12 : x_fetch q_k51 12 = x_st (x_push 13 (.int (0))) := rfl
theorem t51_12 (C : xF) (s n : Nat) (z : xS) : x_to q_k51 C s (n + 1) 12 z = x_nx q_k51 C s n ((x_st (x_push 13 (.int (0)))) C z) := x_to_at f51_12 C s n z
theorem f51_13 : x_fetch q_k51 13 = x_sti 14 3 := rfl
theorem t51_13 (C : xF) (s n : Nat) (z : xS) : x_to q_k51 C s (n + 1) 13 z = x_nx q_k51 C s n ((x_sti 14 3) C z) := x_to_at f51_13 C s n z
theorem f51_14 : x_fetch q_k51 14 = x_ldi 15 3 := rfl
theorem t51_14 (C : xF) (s n : Nat) (z : xS) : x_to q_k51 C s (n + 1) 14 z = x_nx q_k51 C s n ((x_ldi 15 3) C z) := x_to_at f51_14 C s n z
theorem f51_15 : x_fetch q_k51 15 = x_st (x_push 17 (.int (40))) := rfl
theorem t51_15 (C : xF) (s n : Nat) (z : xS) : x_to q_k51 C s (n + 1) 15 z = x_nx q_k51 C s n ((x_st (x_push 17 (.int (40)))) C z) := x_to_at f51_15 C s n z
theorem f51_17 : x_fetch q_k51 17 = x_st (x_icgt 191 20) := rfl
theorem t51_17 (C : xF) (s n : Nat) (z : xS) : x_to q_k51 C s (n + 1) 17 z = x_nx q_k51 C s n ((x_st (x_icgt 191 20)) C z) := x_to_at f51_17 C s n z
theorem f51_20 : x_fetch q_k51 20 = x_lda 21 0 := rfl
theorem t51_20 (C : xF) (s n : Nat) (z : xS) : x_to q_k51 C s (n + 1) 20 z = x_nx q_k51 C s n ((x_lda 21 0) C z) := x_to_at f51_20 C s n z
theorem f51_21 : x_fetch q_k51 21 = x_gf 24 5 8 := rfl
theorem t51_21 (C : xF) (s n : Nat) (z : xS) : x_to q_k51 C s (n + 1) 21 z = x_nx q_k51 C s n ((x_gf 24 5 8) C z) := x_to_at f51_21 C s n z
theorem f51_24 : x_fetch q_k51 24 = x_st (x_ifle 191 27) := rfl
theorem t51_24 (C : xF) (s n : Nat) (z : xS) : x_to q_k51 C s (n + 1) 24 z = x_nx q_k51 C s n ((x_st (x_ifle 191 27)) C z) := x_to_at f51_24 C s n z
theorem f51_27 : x_fetch q_k51 27 = x_lda 28 0 := rfl
theorem t51_27 (C : xF) (s n : Nat) (z : xS) : x_to q_k51 C s (n + 1) 27 z = x_nx q_k51 C s n ((x_lda 28 0) C z) := x_to_at f51_27 C s n z
theorem f51_28 : x_fetch q_k51 28 = x_st (x_dup 29) := rfl
theorem t51_28 (C : xF) (s n : Nat) (z : xS) : x_to q_k51 C s (n + 1) 28 z = x_nx q_k51 C s n ((x_st (x_dup 29)) C z) := x_to_at f51_28 C s n z
theorem f51_29 : x_fetch q_k51 29 = x_gf 32 5 8 := rfl
theorem t51_29 (C : xF) (s n : Nat) (z : xS) : x_to q_k51 C s (n + 1) 29 z = x_nx q_k51 C s n ((x_gf 32 5 8) C z) := x_to_at f51_29 C s n z
theorem f51_32 : x_fetch q_k51 32 = x_st (x_push 33 (.int (1))) := rfl
theorem t51_32 (C : xF) (s n : Nat) (z : xS) : x_to q_k51 C s (n + 1) 32 z = x_nx q_k51 C s n ((x_st (x_push 33 (.int (1)))) C z) := x_to_at f51_32 C s n z
theorem f51_33 : x_fetch q_k51 33 = x_st (x_bin 34 (fun a b => a - b)) := rfl
theorem t51_33 (C : xF) (s n : Nat) (z : xS) : x_to q_k51 C s (n + 1) 33 z = x_nx q_k51 C s n ((x_st (x_bin 34 (fun a b => a - b))) C z) := x_to_at f51_33 C s n z
theorem f51_34 : x_fetch q_k51 34 = x_pf 37 5 8 (.int) := rfl
theorem t51_34 (C : xF) (s n : Nat) (z : xS) : x_to q_k51 C s (n + 1) 34 z = x_nx q_k51 C s n ((x_pf 37 5 8 (.int)) C z) := x_to_at f51_34 C s n z
theorem f51_37 : x_fetch q_k51 37 = x_lda 38 0 := rfl
theorem t51_37 (C : xF) (s n : Nat) (z : xS) : x_to q_k51 C s (n + 1) 37 z = x_nx q_k51 C s n ((x_lda 38 0) C z) := x_to_at f51_37 C s n z
theorem f51_38 : x_fetch q_k51 38 = x_gf 41 5 2 := rfl
theorem t51_38 (C : xF) (s n : Nat) (z : xS) : x_to q_k51 C s (n + 1) 38 z = x_nx q_k51 C s n ((x_gf 41 5 2) C z) := x_to_at f51_38 C s n z
theorem f51_41 : x_fetch q_k51 41 = x_lda 42 0 := rfl
theorem t51_41 (C : xF) (s n : Nat) (z : xS) : x_to q_k51 C s (n + 1) 41 z = x_nx q_k51 C s n ((x_lda 42 0) C z) := x_to_at f51_41 C s n z
theorem f51_42 : x_fetch q_k51 42 = x_gf 45 5 5 := rfl
theorem t51_42 (C : xF) (s n : Nat) (z : xS) : x_to q_k51 C s (n + 1) 42 z = x_nx q_k51 C s n ((x_gf 45 5 5) C z) := x_to_at f51_42 C s n z
theorem f51_45 : x_fetch q_k51 45 = x_lda 46 0 := rfl
theorem t51_45 (C : xF) (s n : Nat) (z : xS) : x_to q_k51 C s (n + 1) 45 z = x_nx q_k51 C s n ((x_lda 46 0) C z) := x_to_at f51_45 C s n z
theorem f51_46 : x_fetch q_k51 46 = x_gf 49 5 8 := rfl
theorem t51_46 (C : xF) (s n : Nat) (z : xS) : x_to q_k51 C s (n + 1) 46 z = x_nx q_k51 C s n ((x_gf 49 5 8) C z) := x_to_at f51_46 C s n z
theorem f51_49 : x_fetch q_k51 49 = x_ald 50 0 := rfl
theorem t51_49 (C : xF) (s n : Nat) (z : xS) : x_to q_k51 C s (n + 1) 49 z = x_nx q_k51 C s n ((x_ald 50 0) C z) := x_to_at f51_49 C s n z
theorem f51_50 : x_fetch q_k51 50 = x_ald 51 0 := rfl
theorem t51_50 (C : xF) (s n : Nat) (z : xS) : x_to q_k51 C s (n + 1) 50 z = x_nx q_k51 C s n ((x_ald 51 0) C z) := x_to_at f51_50 C s n z
theorem f51_51 : x_fetch q_k51 51 = x_sti 53 4 := rfl
theorem t51_51 (C : xF) (s n : Nat) (z : xS) : x_to q_k51 C s (n + 1) 51 z = x_nx q_k51 C s n ((x_sti 53 4) C z) := x_to_at f51_51 C s n z
theorem f51_53 : x_fetch q_k51 53 = x_lda 54 0 := rfl
theorem t51_53 (C : xF) (s n : Nat) (z : xS) : x_to q_k51 C s (n + 1) 53 z = x_nx q_k51 C s n ((x_lda 54 0) C z) := x_to_at f51_53 C s n z
theorem f51_54 : x_fetch q_k51 54 = x_gf 57 5 0 := rfl
theorem t51_54 (C : xF) (s n : Nat) (z : xS) : x_to q_k51 C s (n + 1) 54 z = x_nx q_k51 C s n ((x_gf 57 5 0) C z) := x_to_at f51_54 C s n z
theorem f51_57 : x_fetch q_k51 57 = x_ldi 59 4 := rfl
theorem t51_57 (C : xF) (s n : Nat) (z : xS) : x_to q_k51 C s (n + 1) 57 z = x_nx q_k51 C s n ((x_ldi 59 4) C z) := x_to_at f51_57 C s n z
theorem f51_59 : x_fetch q_k51 59 = x_ald 60 0 := rfl
theorem t51_59 (C : xF) (s n : Nat) (z : xS) : x_to q_k51 C s (n + 1) 59 z = x_nx q_k51 C s n ((x_ald 60 0) C z) := x_to_at f51_59 C s n z
theorem f51_60 : x_fetch q_k51 60 = x_cl_ 63 5 1 := rfl
theorem t51_60 (C : xF) (s n : Nat) (z : xS) : x_to q_k51 C s (n + 1) 60 z = x_nx q_k51 C s n ((x_cl_ 63 5 1) C z) := x_to_at f51_60 C s n z
theorem f51_63 : x_fetch q_k51 63 = x_sti 65 5 := rfl
theorem t51_63 (C : xF) (s n : Nat) (z : xS) : x_to q_k51 C s (n + 1) 63 z = x_nx q_k51 C s n ((x_sti 65 5) C z) := x_to_at f51_63 C s n z
theorem f51_65 : x_fetch q_k51 65 = x_lda 66 0 := rfl
theorem t51_65 (C : xF) (s n : Nat) (z : xS) : x_to q_k51 C s (n + 1) 65 z = x_nx q_k51 C s n ((x_lda 66 0) C z) := x_to_at f51_65 C s n z
theorem f51_66 : x_fetch q_k51 66 = x_gf 69 5 0 := rfl
theorem t51_66 (C : xF) (s n : Nat) (z : xS) : x_to q_k51 C s (n + 1) 66 z = x_nx q_k51 C s n ((x_gf 69 5 0) C z) := x_to_at f51_66 C s n z
theorem f51_69 : x_fetch q_k51 69 = x_ldi 71 4 := rfl
theorem t51_69 (C : xF) (s n : Nat) (z : xS) : x_to q_k51 C s (n + 1) 69 z = x_nx q_k51 C s n ((x_ldi 71 4) C z) := x_to_at f51_69 C s n z
theorem f51_71 : x_fetch q_k51 71 = x_ald 72 0 := rfl
theorem t51_71 (C : xF) (s n : Nat) (z : xS) : x_to q_k51 C s (n + 1) 71 z = x_nx q_k51 C s n ((x_ald 72 0) C z) := x_to_at f51_71 C s n z
theorem f51_72 : x_fetch q_k51 72 = x_cl_ 75 2 1 := rfl
theorem t51_72 (C : xF) (s n : Nat) (z : xS) : x_to q_k51 C s (n + 1) 72 z = x_nx q_k51 C s n ((x_cl_ 75 2 1) C z) := x_to_at f51_72 C s n z
theorem f51_75 : x_fetch q_k51 75 = x_st (x_ifeq 86 78) := rfl
theorem t51_75 (C : xF) (s n : Nat) (z : xS) : x_to q_k51 C s (n + 1) 75 z = x_nx q_k51 C s n ((x_st (x_ifeq 86 78)) C z) := x_to_at f51_75 C s n z
theorem f51_78 : x_fetch q_k51 78 = x_ldi 80 4 := rfl
theorem t51_78 (C : xF) (s n : Nat) (z : xS) : x_to q_k51 C s (n + 1) 78 z = x_nx q_k51 C s n ((x_ldi 80 4) C z) := x_to_at f51_78 C s n z
theorem f51_80 : x_fetch q_k51 80 = x_cl_ 83 1 1 := rfl
theorem t51_80 (C : xF) (s n : Nat) (z : xS) : x_to q_k51 C s (n + 1) 80 z = x_nx q_k51 C s n ((x_cl_ 83 1 1) C z) := x_to_at f51_80 C s n z
theorem f51_83 : x_fetch q_k51 83 = x_st (x_goto 93) := rfl
theorem t51_83 (C : xF) (s n : Nat) (z : xS) : x_to q_k51 C s (n + 1) 83 z = x_nx q_k51 C s n ((x_st (x_goto 93)) C z) := x_to_at f51_83 C s n z
theorem f51_86 : x_fetch q_k51 86 = x_lda 87 0 := rfl
theorem t51_86 (C : xF) (s n : Nat) (z : xS) : x_to q_k51 C s (n + 1) 86 z = x_nx q_k51 C s n ((x_lda 87 0) C z) := x_to_at f51_86 C s n z
theorem f51_87 : x_fetch q_k51 87 = x_gf 90 5 0 := rfl
theorem t51_87 (C : xF) (s n : Nat) (z : xS) : x_to q_k51 C s (n + 1) 87 z = x_nx q_k51 C s n ((x_gf 90 5 0) C z) := x_to_at f51_87 C s n z
theorem f51_90 : x_fetch q_k51 90 = x_ldi 92 4 := rfl
theorem t51_90 (C : xF) (s n : Nat) (z : xS) : x_to q_k51 C s (n + 1) 90 z = x_nx q_k51 C s n ((x_ldi 92 4) C z) := x_to_at f51_90 C s n z
theorem f51_92 : x_fetch q_k51 92 = x_ald 93 0 := rfl
theorem t51_92 (C : xF) (s n : Nat) (z : xS) : x_to q_k51 C s (n + 1) 92 z = x_nx q_k51 C s n ((x_ald 93 0) C z) := x_to_at f51_92 C s n z
theorem f51_93 : x_fetch q_k51 93 = x_sti 95 6 := rfl
theorem t51_93 (C : xF) (s n : Nat) (z : xS) : x_to q_k51 C s (n + 1) 93 z = x_nx q_k51 C s n ((x_sti 95 6) C z) := x_to_at f51_93 C s n z
theorem f51_95 : x_fetch q_k51 95 = x_lda 96 2 := rfl
theorem t51_95 (C : xF) (s n : Nat) (z : xS) : x_to q_k51 C s (n + 1) 95 z = x_nx q_k51 C s n ((x_lda 96 2) C z) := x_to_at f51_95 C s n z
theorem f51_96 : x_fetch q_k51 96 = x_ldi 98 6 := rfl
theorem t51_96 (C : xF) (s n : Nat) (z : xS) : x_to q_k51 C s (n + 1) 96 z = x_nx q_k51 C s n ((x_ldi 98 6) C z) := x_to_at f51_96 C s n z
theorem f51_98 : x_fetch q_k51 98 = x_cv 101 16 2 4 := rfl
theorem t51_98 (C : xF) (s n : Nat) (z : xS) : x_to q_k51 C s (n + 1) 98 z = x_nx q_k51 C s n ((x_cv 101 16 2 4) C z) := x_to_at f51_98 C s n z
theorem f51_101 : x_fetch q_k51 101 = x_st (x_ifeq 117 104) := rfl
theorem t51_101 (C : xF) (s n : Nat) (z : xS) : x_to q_k51 C s (n + 1) 101 z = x_nx q_k51 C s n ((x_st (x_ifeq 117 104)) C z) := x_to_at f51_101 C s n z
theorem f51_104 : x_fetch q_k51 104 = x_lda 105 0 := rfl
theorem t51_104 (C : xF) (s n : Nat) (z : xS) : x_to q_k51 C s (n + 1) 104 z = x_nx q_k51 C s n ((x_lda 105 0) C z) := x_to_at f51_104 C s n z
theorem f51_105 : x_fetch q_k51 105 = x_gf 108 5 8 := rfl
theorem t51_105 (C : xF) (s n : Nat) (z : xS) : x_to q_k51 C s (n + 1) 105 z = x_nx q_k51 C s n ((x_gf 108 5 8) C z) := x_to_at f51_105 C s n z
theorem f51_108 : x_fetch q_k51 108 = x_ldi 110 5 := rfl
theorem t51_108 (C : xF) (s n : Nat) (z : xS) : x_to q_k51 C s (n + 1) 108 z = x_nx q_k51 C s n ((x_ldi 110 5) C z) := x_to_at f51_108 C s n z
theorem f51_110 : x_fetch q_k51 110 = x_st (x_bin 111 (fun a b => a + b)) := rfl
theorem t51_110 (C : xF) (s n : Nat) (z : xS) : x_to q_k51 C s (n + 1) 110 z = x_nx q_k51 C s n ((x_st (x_bin 111 (fun a b => a + b))) C z) := x_to_at f51_110 C s n z
theorem f51_111 : x_fetch q_k51 111 = x_st (x_push 114 (.int (241))) := rfl
theorem t51_111 (C : xF) (s n : Nat) (z : xS) : x_to q_k51 C s (n + 1) 111 z = x_nx q_k51 C s n ((x_st (x_push 114 (.int (241)))) C z) := x_to_at f51_111 C s n z
theorem f51_114 : x_fetch q_k51 114 = x_st (x_icle 119 117) := rfl
theorem t51_114 (C : xF) (s n : Nat) (z : xS) : x_to q_k51 C s (n + 1) 114 z = x_nx q_k51 C s n ((x_st (x_icle 119 117)) C z) := x_to_at f51_114 C s n z
theorem f51_117 : x_fetch q_k51 117 = x_st (x_push 118 (.int (0))) := rfl
theorem t51_117 (C : xF) (s n : Nat) (z : xS) : x_to q_k51 C s (n + 1) 117 z = x_nx q_k51 C s n ((x_st (x_push 118 (.int (0)))) C z) := x_to_at f51_117 C s n z
theorem f51_118 : x_fetch q_k51 118 = x_ri (.boolean) := rfl
theorem t51_118 (C : xF) (s n : Nat) (z : xS) : x_to q_k51 C s (n + 1) 118 z = x_nx q_k51 C s n ((x_ri (.boolean)) C z) := x_to_at f51_118 C s n z
theorem f51_119 : x_fetch q_k51 119 = x_ldi 121 4 := rfl
theorem t51_119 (C : xF) (s n : Nat) (z : xS) : x_to q_k51 C s (n + 1) 119 z = x_nx q_k51 C s n ((x_ldi 121 4) C z) := x_to_at f51_119 C s n z
theorem f51_121 : x_fetch q_k51 121 = x_st (x_push 122 (.int (1))) := rfl
theorem t51_121 (C : xF) (s n : Nat) (z : xS) : x_to q_k51 C s (n + 1) 121 z = x_nx q_k51 C s n ((x_st (x_push 122 (.int (1)))) C z) := x_to_at f51_121 C s n z
theorem f51_122 : x_fetch q_k51 122 = x_st (x_bin 123 (fun a b => a + b)) := rfl
theorem t51_122 (C : xF) (s n : Nat) (z : xS) : x_to q_k51 C s (n + 1) 122 z = x_nx q_k51 C s n ((x_st (x_bin 123 (fun a b => a + b))) C z) := x_to_at f51_122 C s n z
theorem f51_123 : x_fetch q_k51 123 = x_sti 125 7 := rfl
theorem t51_123 (C : xF) (s n : Nat) (z : xS) : x_to q_k51 C s (n + 1) 123 z = x_nx q_k51 C s n ((x_sti 125 7) C z) := x_to_at f51_123 C s n z
theorem f51_125 : x_fetch q_k51 125 = x_ldi 127 5 := rfl
theorem t51_125 (C : xF) (s n : Nat) (z : xS) : x_to q_k51 C s (n + 1) 125 z = x_nx q_k51 C s n ((x_ldi 127 5) C z) := x_to_at f51_125 C s n z
theorem f51_127 : x_fetch q_k51 127 = x_st (x_push 128 (.int (1))) := rfl
theorem t51_127 (C : xF) (s n : Nat) (z : xS) : x_to q_k51 C s (n + 1) 127 z = x_nx q_k51 C s n ((x_st (x_push 128 (.int (1)))) C z) := x_to_at f51_127 C s n z
theorem f51_128 : x_fetch q_k51 128 = x_st (x_bin 129 (fun a b => a - b)) := rfl
theorem t51_128 (C : xF) (s n : Nat) (z : xS) : x_to q_k51 C s (n + 1) 128 z = x_nx q_k51 C s n ((x_st (x_bin 129 (fun a b => a - b))) C z) := x_to_at f51_128 C s n z
theorem f51_129 : x_fetch q_k51 129 = x_sti 131 8 := rfl
theorem t51_129 (C : xF) (s n : Nat) (z : xS) : x_to q_k51 C s (n + 1) 129 z = x_nx q_k51 C s n ((x_sti 131 8) C z) := x_to_at f51_129 C s n z
theorem f51_131 : x_fetch q_k51 131 = x_ldi 133 8 := rfl
theorem t51_131 (C : xF) (s n : Nat) (z : xS) : x_to q_k51 C s (n + 1) 131 z = x_nx q_k51 C s n ((x_ldi 133 8) C z) := x_to_at f51_131 C s n z
theorem f51_133 : x_fetch q_k51 133 = x_st (x_iflt 174 136) := rfl
theorem t51_133 (C : xF) (s n : Nat) (z : xS) : x_to q_k51 C s (n + 1) 133 z = x_nx q_k51 C s n ((x_st (x_iflt 174 136)) C z) := x_to_at f51_133 C s n z
theorem f51_136 : x_fetch q_k51 136 = x_ldi 138 7 := rfl
theorem t51_136 (C : xF) (s n : Nat) (z : xS) : x_to q_k51 C s (n + 1) 136 z = x_nx q_k51 C s n ((x_ldi 138 7) C z) := x_to_at f51_136 C s n z
theorem f51_138 : x_fetch q_k51 138 = x_lda 139 0 := rfl
theorem t51_138 (C : xF) (s n : Nat) (z : xS) : x_to q_k51 C s (n + 1) 138 z = x_nx q_k51 C s n ((x_lda 139 0) C z) := x_to_at f51_138 C s n z
theorem f51_139 : x_fetch q_k51 139 = x_gf 142 5 7 := rfl
theorem t51_139 (C : xF) (s n : Nat) (z : xS) : x_to q_k51 C s (n + 1) 139 z = x_nx q_k51 C s n ((x_gf 142 5 7) C z) := x_to_at f51_139 C s n z
theorem f51_142 : x_fetch q_k51 142 = x_st (x_icge 174 145) := rfl
theorem t51_142 (C : xF) (s n : Nat) (z : xS) : x_to q_k51 C s (n + 1) 142 z = x_nx q_k51 C s n ((x_st (x_icge 174 145)) C z) := x_to_at f51_142 C s n z
theorem f51_145 : x_fetch q_k51 145 = x_lda 146 0 := rfl
theorem t51_145 (C : xF) (s n : Nat) (z : xS) : x_to q_k51 C s (n + 1) 145 z = x_nx q_k51 C s n ((x_lda 146 0) C z) := x_to_at f51_145 C s n z
theorem f51_146 : x_fetch q_k51 146 = x_gf 149 5 5 := rfl
theorem t51_146 (C : xF) (s n : Nat) (z : xS) : x_to q_k51 C s (n + 1) 146 z = x_nx q_k51 C s n ((x_gf 149 5 5) C z) := x_to_at f51_146 C s n z
theorem f51_149 : x_fetch q_k51 149 = x_lda 150 0 := rfl
theorem t51_149 (C : xF) (s n : Nat) (z : xS) : x_to q_k51 C s (n + 1) 149 z = x_nx q_k51 C s n ((x_lda 150 0) C z) := x_to_at f51_149 C s n z
theorem f51_150 : x_fetch q_k51 150 = x_gf 153 5 8 := rfl
theorem t51_150 (C : xF) (s n : Nat) (z : xS) : x_to q_k51 C s (n + 1) 150 z = x_nx q_k51 C s n ((x_gf 153 5 8) C z) := x_to_at f51_150 C s n z
theorem f51_153 : x_fetch q_k51 153 = x_ldi 155 8 := rfl
theorem t51_153 (C : xF) (s n : Nat) (z : xS) : x_to q_k51 C s (n + 1) 153 z = x_nx q_k51 C s n ((x_ldi 155 8) C z) := x_to_at f51_153 C s n z
theorem f51_155 : x_fetch q_k51 155 = x_st (x_bin 156 (fun a b => a + b)) := rfl
theorem t51_155 (C : xF) (s n : Nat) (z : xS) : x_to q_k51 C s (n + 1) 155 z = x_nx q_k51 C s n ((x_st (x_bin 156 (fun a b => a + b))) C z) := x_to_at f51_155 C s n z
theorem f51_156 : x_fetch q_k51 156 = x_ldi 158 7 := rfl
theorem t51_156 (C : xF) (s n : Nat) (z : xS) : x_to q_k51 C s (n + 1) 156 z = x_nx q_k51 C s n ((x_ldi 158 7) C z) := x_to_at f51_156 C s n z
theorem f51_158 : x_fetch q_k51 158 = x_ast 159 0 (fun x => x) := rfl
theorem t51_158 (C : xF) (s n : Nat) (z : xS) : x_to q_k51 C s (n + 1) 158 z = x_nx q_k51 C s n ((x_ast 159 0 (fun x => x)) C z) := x_to_at f51_158 C s n z
theorem f51_159 : x_fetch q_k51 159 = x_lda 160 0 := rfl
theorem t51_159 (C : xF) (s n : Nat) (z : xS) : x_to q_k51 C s (n + 1) 159 z = x_nx q_k51 C s n ((x_lda 160 0) C z) := x_to_at f51_159 C s n z
theorem f51_160 : x_fetch q_k51 160 = x_gf 163 5 1 := rfl
theorem t51_160 (C : xF) (s n : Nat) (z : xS) : x_to q_k51 C s (n + 1) 160 z = x_nx q_k51 C s n ((x_gf 163 5 1) C z) := x_to_at f51_160 C s n z
theorem f51_163 : x_fetch q_k51 163 = x_ldi 165 7 := rfl
theorem t51_163 (C : xF) (s n : Nat) (z : xS) : x_to q_k51 C s (n + 1) 163 z = x_nx q_k51 C s n ((x_ldi 165 7) C z) := x_to_at f51_163 C s n z
theorem f51_165 : x_fetch q_k51 165 = x_ald 166 0 := rfl
theorem t51_165 (C : xF) (s n : Nat) (z : xS) : x_to q_k51 C s (n + 1) 165 z = x_nx q_k51 C s n ((x_ald 166 0) C z) := x_to_at f51_165 C s n z
theorem f51_166 : x_fetch q_k51 166 = x_sti 168 7 := rfl
theorem t51_166 (C : xF) (s n : Nat) (z : xS) : x_to q_k51 C s (n + 1) 166 z = x_nx q_k51 C s n ((x_sti 168 7) C z) := x_to_at f51_166 C s n z
theorem f51_168 : x_fetch q_k51 168 = x_iinc 171 8 (-1) := rfl
theorem t51_168 (C : xF) (s n : Nat) (z : xS) : x_to q_k51 C s (n + 1) 168 z = x_nx q_k51 C s n ((x_iinc 171 8 (-1)) C z) := x_to_at f51_168 C s n z
set_option maxRecDepth 20000 in
theorem f51_171 : x_fetch q_k51 171 = x_st (x_goto 131) := rfl
theorem t51_171 (C : xF) (s n : Nat) (z : xS) : x_to q_k51 C s (n + 1) 171 z = x_nx q_k51 C s n ((x_st (x_goto 131)) C z) := x_to_at f51_171 C s n z
set_option maxRecDepth 20000 in
theorem f51_174 : x_fetch q_k51 174 = x_lda 175 0 := rfl
theorem t51_174 (C : xF) (s n : Nat) (z : xS) : x_to q_k51 C s (n + 1) 174 z = x_nx q_k51 C s n ((x_lda 175 0) C z) := x_to_at f51_174 C s n z
set_option maxRecDepth 20000 in
theorem f51_175 : x_fetch q_k51 175 = x_st (x_dup 176) := rfl
theorem t51_175 (C : xF) (s n : Nat) (z : xS) : x_to q_k51 C s (n + 1) 175 z = x_nx q_k51 C s n ((x_st (x_dup 176)) C z) := x_to_at f51_175 C s n z
set_option maxRecDepth 20000 in
theorem f51_176 : x_fetch q_k51 176 = x_gf 179 5 8 := rfl
theorem t51_176 (C : xF) (s n : Nat) (z : xS) : x_to q_k51 C s (n + 1) 176 z = x_nx q_k51 C s n ((x_gf 179 5 8) C z) := x_to_at f51_176 C s n z
set_option maxRecDepth 20000 in
theorem f51_179 : x_fetch q_k51 179 = x_ldi 181 5 := rfl
theorem t51_179 (C : xF) (s n : Nat) (z : xS) : x_to q_k51 C s (n + 1) 179 z = x_nx q_k51 C s n ((x_ldi 181 5) C z) := x_to_at f51_179 C s n z
set_option maxRecDepth 20000 in
theorem f51_181 : x_fetch q_k51 181 = x_st (x_bin 182 (fun a b => a + b)) := rfl
theorem t51_181 (C : xF) (s n : Nat) (z : xS) : x_to q_k51 C s (n + 1) 181 z = x_nx q_k51 C s n ((x_st (x_bin 182 (fun a b => a + b))) C z) := x_to_at f51_181 C s n z
set_option maxRecDepth 20000 in
theorem f51_182 : x_fetch q_k51 182 = x_pf 185 5 8 (.int) := rfl
theorem t51_182 (C : xF) (s n : Nat) (z : xS) : x_to q_k51 C s (n + 1) 182 z = x_nx q_k51 C s n ((x_pf 185 5 8 (.int)) C z) := x_to_at f51_182 C s n z
set_option maxRecDepth 20000 in
theorem f51_185 : x_fetch q_k51 185 = x_iinc 188 3 (1) := rfl
theorem t51_185 (C : xF) (s n : Nat) (z : xS) : x_to q_k51 C s (n + 1) 185 z = x_nx q_k51 C s n ((x_iinc 188 3 (1)) C z) := x_to_at f51_185 C s n z
set_option maxRecDepth 20000 in
theorem f51_188 : x_fetch q_k51 188 = x_st (x_goto 14) := rfl
theorem t51_188 (C : xF) (s n : Nat) (z : xS) : x_to q_k51 C s (n + 1) 188 z = x_nx q_k51 C s n ((x_st (x_goto 14)) C z) := x_to_at f51_188 C s n z
set_option maxRecDepth 20000 in
theorem f51_191 : x_fetch q_k51 191 = x_lda 192 0 := rfl
theorem t51_191 (C : xF) (s n : Nat) (z : xS) : x_to q_k51 C s (n + 1) 191 z = x_nx q_k51 C s n ((x_lda 192 0) C z) := x_to_at f51_191 C s n z
set_option maxRecDepth 20000 in
theorem f51_192 : x_fetch q_k51 192 = x_gf 195 5 8 := rfl
theorem t51_192 (C : xF) (s n : Nat) (z : xS) : x_to q_k51 C s (n + 1) 192 z = x_nx q_k51 C s n ((x_gf 195 5 8) C z) := x_to_at f51_192 C s n z
set_option maxRecDepth 20000 in
theorem f51_195 : x_fetch q_k51 195 = x_st (x_ifne 202 198) := rfl
theorem t51_195 (C : xF) (s n : Nat) (z : xS) : x_to q_k51 C s (n + 1) 195 z = x_nx q_k51 C s n ((x_st (x_ifne 202 198)) C z) := x_to_at f51_195 C s n z
set_option maxRecDepth 20000 in
theorem f51_198 : x_fetch q_k51 198 = x_st (x_push 199 (.int (1))) := rfl
theorem t51_198 (C : xF) (s n : Nat) (z : xS) : x_to q_k51 C s (n + 1) 198 z = x_nx q_k51 C s n ((x_st (x_push 199 (.int (1)))) C z) := x_to_at f51_198 C s n z
set_option maxRecDepth 20000 in
theorem f51_199 : x_fetch q_k51 199 = x_st (x_goto 203) := rfl
theorem t51_199 (C : xF) (s n : Nat) (z : xS) : x_to q_k51 C s (n + 1) 199 z = x_nx q_k51 C s n ((x_st (x_goto 203)) C z) := x_to_at f51_199 C s n z
set_option maxRecDepth 20000 in
theorem f51_202 : x_fetch q_k51 202 = x_st (x_push 203 (.int (0))) := rfl
theorem t51_202 (C : xF) (s n : Nat) (z : xS) : x_to q_k51 C s (n + 1) 202 z = x_nx q_k51 C s n ((x_st (x_push 203 (.int (0)))) C z) := x_to_at f51_202 C s n z
set_option maxRecDepth 20000 in
theorem f51_203 : x_fetch q_k51 203 = x_ri (.boolean) := rfl
theorem t51_203 (C : xF) (s n : Nat) (z : xS) : x_to q_k51 C s (n + 1) 203 z = x_nx q_k51 C s n ((x_ri (.boolean)) C z) := x_to_at f51_203 C s n z
def stW (Os : List Int) : List Nat → Prop
  | [] => True
  | n :: W => gZ Os W.length = n ∧ stW Os W
theorem stW.keep {Os Os' : List Int} : ∀ {W : List Nat}, stW Os W → (∀ j : Nat, j < W.length → gZ Os' j = gZ Os j) → stW Os' W
  | [], _, _ => True.intro
  | n :: W, h, e => ⟨by rw [e W.length (by simp)]; exact h.1, stW.keep h.2 (fun j hj => e j (by simp; omega))⟩
def fV (P : List Int) (fd : Nat → Nat) (s : Int) : Int := if s < 99 then (fd (P.idxOf s) : Int) else s
section CT
variable {N : Nat} {l : Int} {P Sy Ee Ro : List Int}
theorem l51i (d : Nat) (hN : 53 ≤ N) (W : List Nat) (hW9 : W.length ≤ 200) (e1 : Ee.length = 80) (hEe : ∀ i, 0 ≤ i → i < l → gZ Ee i = i + (tm P i.toNat).length) (hPl : (P.length : Int) = l) (l80 : l ≤ 80) : ∀ (r : Nat) (at_ : Nat) (Os : List Int) (w : Nat → xC) (lv : xL), r ≤ 3 → (∀ x ∈ apos P r at_, x < P.length) → at_ ≤ 80 → stW Os W → Os.length = 241 → w 16 = gO l W.length → w 18 = cI 0 Ee → w 22 = cI 0 Os → c1 lv → x_lk lv 0 = some (.ref 19) → x_lk lv 7 = some (.int (iZ (at_ : Int))) → x_lk lv 8 = some (.int (iZ ((r : Int) - 1))) → ∃ (Os' : List Int) (lv' : xL), Os'.length = 241 ∧ stW Os' (apos P r at_ ++ W) ∧ (∀ j : Int, (W.length : Int) + r ≤ j → gZ Os' j = gZ Os j) ∧ c1 lv' ∧ (∀ j, j ≠ 7 → j ≠ 8 → x_lk lv' j = x_lk lv j) ∧ ∀ res, Gx q_k51 d 174 (lv', [], hp (uH w 22 (cI 0 Os')) N) res → Gx q_k51 d 131 (lv, [], hp w N) res := by
  intro r
  induction r with
  | zero =>
    intro at_ Os w lv r3 hx a80 hs nO hg hE hO hc l0 l7 l8
    refine ⟨Os, lv, nO, hs, fun _ _ => rfl, hc, fun _ _ _ => rfl, fun res hgg => ?_⟩
    rw [uH_self hO] at hgg
    refine Gx.run 20 Cs.tt (fun K _ => ?_) hgg
    have l8' : x_lk lv 8 = some (.int (iZ (-1))) := l8
    simp (disch := first | (refine c1_id ?_; assumption) | (refine c1_st rfl ?_; repeat (first | assumption | refine c1_st rfl ?_)) | omega) [nx_l, nx_r, nx_n, x_st, x_push, x_bin, x_div, x_un, x_dup, x_pop, x_dup2, x_goto, x_ifeq, x_ifne, x_iflt, x_ifge, x_ifgt, x_ifle, x_iceq, x_icne, x_iclt, x_icge, x_icgt, x_icle, x_ifnull, x_ifnonnull, x_ldi, x_lda, x_sti, x_sta, x_iinc, x_gf, x_pf, x_ald, x_ast, x_aln, x_len, x_cl_, x_cv, x_cs, x_rc, x_r0, x_isT, x_oi, x_rv, x_ri, x_ra, Value.category, t51_0, t51_1, t51_4, t51_5, t51_6, t51_7, t51_8, t51_9, t51_12, t51_13, t51_14, t51_15, t51_17, t51_20, t51_21, t51_24, t51_27, t51_28, t51_29, t51_32, t51_33, t51_34, t51_37, t51_38, t51_41, t51_42, t51_45, t51_46, t51_49, t51_50, t51_51, t51_53, t51_54, t51_57, t51_59, t51_60, t51_63, t51_65, t51_66, t51_69, t51_71, t51_72, t51_75, t51_78, t51_80, t51_83, t51_86, t51_87, t51_90, t51_92, t51_93, t51_95, t51_96, t51_98, t51_101, t51_104, t51_105, t51_108, t51_110, t51_111, t51_114, t51_117, t51_118, t51_119, t51_121, t51_122, t51_123, t51_125, t51_127, t51_128, t51_129, t51_131, t51_133, t51_136, t51_138, t51_139, t51_142, t51_145, t51_146, t51_149, t51_150, t51_153, t51_155, t51_156, t51_158, t51_159, t51_160, t51_163, t51_165, t51_166, t51_168, t51_171, t51_174, t51_175, t51_176, t51_179, t51_181, t51_182, t51_185, t51_188, t51_191, t51_192, t51_195, t51_198, t51_199, t51_202, t51_203, lk_s, hp_get, hp_set, uH_at, uH_ne, uH_upd, uH_swap, iZ_add, iZ_sub, iZ_mul, iZ_neg, iZ_lt, iZ_le, iZ_eq, iZ_div, iZ_of, ix_Z, gZ_map, gZ_mapI, gZ_map', le_0, le_s, sZ_map, sZ_len, bZ_0, bZ_inj, bZ_t, bZ_f, nr_i, nr_0, nr_1, nr_b, ft_i, ft_b, ft_0, ft_1, zl_0, zl_1, zl_40, zl_241, l0, l8', -List.filter_filter, -List.getElem?_map, -List.getD_eq_getElem?_getD]
  | succ r ih =>
    intro at_ Os w lv r3 hx a80 hs nO hg hE hO hc l0 l7 l8
    rw [show ((r + 1 : Nat) : Int) - 1 = (r : Int) by omega] at l8
    have hat : at_ < P.length := hx at_ List.mem_cons_self
    have b1 : ¬ (r : Int) < 0 := by omega
    have b2 : ¬ l ≤ (at_ : Int) := by omega
    have ee := hEe (at_ : Int) (by omega) (by omega)
    rw [show ((at_ : Int)).toNat = at_ by omega] at ee
    have nx : at_ + (tm P at_).length ≤ P.length := tm_fits hat
    obtain ⟨Os1, hOs1⟩ : ∃ Os1, Os1 = sZ Os ((W.length : Int) + (r : Int)) (at_ : Int) := ⟨_, rfl⟩
    have nO1 : Os1.length = 241 := by rw [hOs1, sZ_len]; exact nO
    have aO1 : ∀ j : Int, 0 ≤ j → gZ Os1 j = if (W.length : Int) + (r : Int) = j then (at_ : Int) else gZ Os j := fun j j0 => by rw [hOs1]; exact gZ_sZ (by omega) (by omega) j0
    obtain ⟨w1, hw1⟩ : ∃ w1, w1 = uH w 22 (cI 0 Os1) := ⟨_, rfl⟩
    have C7 := c1_st (i := 7) (v := .int (iZ ((at_ + (tm P at_).length : Nat) : Int))) rfl hc
    have C8 := c1_st (i := 8) (v := .int (iZ ((r : Int) - 1))) rfl C7
    obtain ⟨Os', lv', a1, a2, a3, a4, a5, a6⟩ := ih (at_ + (tm P at_).length) Os1 w1 ((8, .int (iZ ((r : Int) - 1))) :: List.filter (x_keep 8) ((7, .int (iZ ((at_ + (tm P at_).length : Nat) : Int))) :: lv.filter (x_keep 7))) (by omega) (fun x hxm => hx x (List.mem_cons_of_mem _ hxm)) (by omega) (hs.keep (fun j hj => by rw [aO1 _ (by omega), if_neg (by omega)])) nO1 (by rw [hw1, uH_ne (by decide)]; exact hg) (by rw [hw1, uH_ne (by decide)]; exact hE) (by rw [hw1, uH_at]) C8 (by rw [lk_s C7, lk_s hc]; exact l0) (by rw [lk_s C7, lk_s hc]; rfl) (by rw [lk_s C7]; rfl)
    have ew : uH w1 22 (cI 0 Os') = uH w 22 (cI 0 Os') := by rw [hw1, uH_upd]
    rw [ew] at a6
    refine ⟨Os', lv', a1, ⟨?_, a2⟩, fun j hj => ?_, a4, fun j j7 j8 => by rw [a5 j j7 j8, lk_s C7, if_neg (Ne.symm j8), lk_s hc, if_neg (Ne.symm j7)], fun res hgg => Gx.run 60 Cs.tt (fun K _ => ?_) (a6 res hgg)⟩
    · show gZ Os' (((apos P r (at_ + (tm P at_).length) ++ W).length : Nat) : Int) = _
      rw [List.length_append, apos_len, show (((r + W.length : Nat)) : Int) = (W.length : Int) + (r : Int) by omega, a3 _ (Int.le_refl _), aO1 _ (by omega), if_pos rfl]
    · rw [a3 j (by omega), aO1 j (by omega), if_neg (by omega)]
    · rw [hw1, hOs1]
      obtain ⟨ww, hww⟩ : ∃ ww : Int, ww = (W.length : Int) := ⟨_, rfl⟩
      rw [← hww] at hg
      have ww0 : 0 ≤ ww := by omega
      have ww9 : ww ≤ 200 := by omega
      have ec : ((at_ + (tm P at_).length : Nat) : Int) = (at_ : Int) + ((tm P at_).length : Int) := by omega
      have e2 : (r : Int) + -1 = (r : Int) - 1 := by omega
      have r9 : (r : Int) < 3 := by omega
      rw [ec, ← hww]
      simp (disch := first | (refine c1_id ?_; assumption) | (refine c1_st rfl ?_; repeat (first | assumption | refine c1_st rfl ?_)) | omega) [nx_l, nx_r, nx_n, x_st, x_push, x_bin, x_div, x_un, x_dup, x_pop, x_dup2, x_goto, x_ifeq, x_ifne, x_iflt, x_ifge, x_ifgt, x_ifle, x_iceq, x_icne, x_iclt, x_icge, x_icgt, x_icle, x_ifnull, x_ifnonnull, x_ldi, x_lda, x_sti, x_sta, x_iinc, x_gf, x_pf, x_ald, x_ast, x_aln, x_len, x_cl_, x_cv, x_cs, x_rc, x_r0, x_isT, x_oi, x_rv, x_ri, x_ra, Value.category, t51_0, t51_1, t51_4, t51_5, t51_6, t51_7, t51_8, t51_9, t51_12, t51_13, t51_14, t51_15, t51_17, t51_20, t51_21, t51_24, t51_27, t51_28, t51_29, t51_32, t51_33, t51_34, t51_37, t51_38, t51_41, t51_42, t51_45, t51_46, t51_49, t51_50, t51_51, t51_53, t51_54, t51_57, t51_59, t51_60, t51_63, t51_65, t51_66, t51_69, t51_71, t51_72, t51_75, t51_78, t51_80, t51_83, t51_86, t51_87, t51_90, t51_92, t51_93, t51_95, t51_96, t51_98, t51_101, t51_104, t51_105, t51_108, t51_110, t51_111, t51_114, t51_117, t51_118, t51_119, t51_121, t51_122, t51_123, t51_125, t51_127, t51_128, t51_129, t51_131, t51_133, t51_136, t51_138, t51_139, t51_142, t51_145, t51_146, t51_149, t51_150, t51_153, t51_155, t51_156, t51_158, t51_159, t51_160, t51_163, t51_165, t51_166, t51_168, t51_171, t51_174, t51_175, t51_176, t51_179, t51_181, t51_182, t51_185, t51_188, t51_191, t51_192, t51_195, t51_198, t51_199, t51_202, t51_203, lk_s, hp_get, hp_set, uH_at, uH_ne, uH_upd, uH_swap, iZ_add, iZ_sub, iZ_mul, iZ_neg, iZ_lt, iZ_le, iZ_eq, iZ_div, iZ_of, ix_Z, gZ_map, gZ_mapI, gZ_map', le_0, le_s, sZ_map, sZ_len, bZ_0, bZ_inj, bZ_t, bZ_f, nr_i, nr_0, nr_1, nr_b, ft_i, ft_b, ft_0, ft_1, zl_0, zl_1, zl_40, zl_241, l0, l7, l8, hg, hE, hO, b1, b2, ee, e2, gO, gF, -List.filter_filter, -List.getElem?_map, -List.getD_eq_getElem?_getD]
end CT
