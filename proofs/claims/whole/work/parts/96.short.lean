/-! the reference: the short answers -/
theorem f92_0 : x_fetch q_k92 0 = x_lda 1 0 := rfl
theorem t92_0 (C : xF) (s n : Nat) (z : xS) : x_to q_k92 C s (n + 1) 0 z = x_nx q_k92 C s n ((x_lda 1 0) C z) := x_to_at f92_0 C s n z
theorem f92_1 : x_fetch q_k92 1 = x_gf 4 8 0 := rfl
theorem t92_1 (C : xF) (s n : Nat) (z : xS) : x_to q_k92 C s (n + 1) 1 z = x_nx q_k92 C s n ((x_gf 4 8 0) C z) := x_to_at f92_1 C s n z
theorem f92_4 : x_fetch q_k92 4 = x_ri (.int) := rfl
theorem t92_4 (C : xF) (s n : Nat) (z : xS) : x_to q_k92 C s (n + 1) 4 z = x_nx q_k92 C s n ((x_ri (.int)) C z) := x_to_at f92_4 C s n z
theorem f94_0 : x_fetch q_k94 0 = x_lda 1 0 := rfl
theorem t94_0 (C : xF) (s n : Nat) (z : xS) : x_to q_k94 C s (n + 1) 0 z = x_nx q_k94 C s n ((x_lda 1 0) C z) := x_to_at f94_0 C s n z
theorem f94_1 : x_fetch q_k94 1 = x_st (x_push 2 (.int (0))) := rfl
theorem t94_1 (C : xF) (s n : Nat) (z : xS) : x_to q_k94 C s (n + 1) 1 z = x_nx q_k94 C s n ((x_st (x_push 2 (.int (0)))) C z) := x_to_at f94_1 C s n z
theorem f94_2 : x_fetch q_k94 2 = x_pf 5 8 0 (.int) := rfl
theorem t94_2 (C : xF) (s n : Nat) (z : xS) : x_to q_k94 C s (n + 1) 2 z = x_nx q_k94 C s n ((x_pf 5 8 0 (.int)) C z) := x_to_at f94_2 C s n z
theorem f94_5 : x_fetch q_k94 5 = x_ldi 6 1 := rfl
theorem t94_5 (C : xF) (s n : Nat) (z : xS) : x_to q_k94 C s (n + 1) 5 z = x_nx q_k94 C s n ((x_ldi 6 1) C z) := x_to_at f94_5 C s n z
theorem f94_6 : x_fetch q_k94 6 = x_st (x_push 8 (.int (32))) := rfl
theorem t94_6 (C : xF) (s n : Nat) (z : xS) : x_to q_k94 C s (n + 1) 6 z = x_nx q_k94 C s n ((x_st (x_push 8 (.int (32)))) C z) := x_to_at f94_6 C s n z
theorem f94_8 : x_fetch q_k94 8 = x_st (x_iclt 26 11) := rfl
theorem t94_8 (C : xF) (s n : Nat) (z : xS) : x_to q_k94 C s (n + 1) 8 z = x_nx q_k94 C s n ((x_st (x_iclt 26 11)) C z) := x_to_at f94_8 C s n z
theorem f94_11 : x_fetch q_k94 11 = x_ldi 12 1 := rfl
theorem t94_11 (C : xF) (s n : Nat) (z : xS) : x_to q_k94 C s (n + 1) 11 z = x_nx q_k94 C s n ((x_ldi 12 1) C z) := x_to_at f94_11 C s n z
theorem f94_12 : x_fetch q_k94 12 = x_st (x_push 14 (.int (126))) := rfl
theorem t94_12 (C : xF) (s n : Nat) (z : xS) : x_to q_k94 C s (n + 1) 12 z = x_nx q_k94 C s n ((x_st (x_push 14 (.int (126)))) C z) := x_to_at f94_12 C s n z
theorem f94_14 : x_fetch q_k94 14 = x_st (x_icgt 26 17) := rfl
theorem t94_14 (C : xF) (s n : Nat) (z : xS) : x_to q_k94 C s (n + 1) 14 z = x_nx q_k94 C s n ((x_st (x_icgt 26 17)) C z) := x_to_at f94_14 C s n z
theorem f94_17 : x_fetch q_k94 17 = x_lda 18 0 := rfl
theorem t94_17 (C : xF) (s n : Nat) (z : xS) : x_to q_k94 C s (n + 1) 17 z = x_nx q_k94 C s n ((x_lda 18 0) C z) := x_to_at f94_17 C s n z
theorem f94_18 : x_fetch q_k94 18 = x_gf 21 8 13 := rfl
theorem t94_18 (C : xF) (s n : Nat) (z : xS) : x_to q_k94 C s (n + 1) 18 z = x_nx q_k94 C s n ((x_gf 21 8 13) C z) := x_to_at f94_18 C s n z
theorem f94_21 : x_fetch q_k94 21 = x_st (x_push 23 (.int (60))) := rfl
theorem t94_21 (C : xF) (s n : Nat) (z : xS) : x_to q_k94 C s (n + 1) 21 z = x_nx q_k94 C s n ((x_st (x_push 23 (.int (60)))) C z) := x_to_at f94_21 C s n z
theorem f94_23 : x_fetch q_k94 23 = x_st (x_iclt 28 26) := rfl
theorem t94_23 (C : xF) (s n : Nat) (z : xS) : x_to q_k94 C s (n + 1) 23 z = x_nx q_k94 C s n ((x_st (x_iclt 28 26)) C z) := x_to_at f94_23 C s n z
theorem f94_26 : x_fetch q_k94 26 = x_st (x_push 27 (.int (0))) := rfl
theorem t94_26 (C : xF) (s n : Nat) (z : xS) : x_to q_k94 C s (n + 1) 26 z = x_nx q_k94 C s n ((x_st (x_push 27 (.int (0)))) C z) := x_to_at f94_26 C s n z
theorem f94_27 : x_fetch q_k94 27 = x_ri (.boolean) := rfl
theorem t94_27 (C : xF) (s n : Nat) (z : xS) : x_to q_k94 C s (n + 1) 27 z = x_nx q_k94 C s n ((x_ri (.boolean)) C z) := x_to_at f94_27 C s n z
theorem f94_28 : x_fetch q_k94 28 = x_lda 29 0 := rfl
theorem t94_28 (C : xF) (s n : Nat) (z : xS) : x_to q_k94 C s (n + 1) 28 z = x_nx q_k94 C s n ((x_lda 29 0) C z) := x_to_at f94_28 C s n z
theorem f94_29 : x_fetch q_k94 29 = x_gf 32 8 12 := rfl
theorem t94_29 (C : xF) (s n : Nat) (z : xS) : x_to q_k94 C s (n + 1) 29 z = x_nx q_k94 C s n ((x_gf 32 8 12) C z) := x_to_at f94_29 C s n z
theorem f94_32 : x_fetch q_k94 32 = x_lda 33 0 := rfl
theorem t94_32 (C : xF) (s n : Nat) (z : xS) : x_to q_k94 C s (n + 1) 32 z = x_nx q_k94 C s n ((x_lda 33 0) C z) := x_to_at f94_32 C s n z
theorem f94_33 : x_fetch q_k94 33 = x_gf 36 8 13 := rfl
theorem t94_33 (C : xF) (s n : Nat) (z : xS) : x_to q_k94 C s (n + 1) 33 z = x_nx q_k94 C s n ((x_gf 36 8 13) C z) := x_to_at f94_33 C s n z
theorem f94_36 : x_fetch q_k94 36 = x_ldi 37 1 := rfl
theorem t94_36 (C : xF) (s n : Nat) (z : xS) : x_to q_k94 C s (n + 1) 36 z = x_nx q_k94 C s n ((x_ldi 37 1) C z) := x_to_at f94_36 C s n z
theorem f94_37 : x_fetch q_k94 37 = x_ast 38 2 (fun x => vp_nar .char x) := rfl
theorem t94_37 (C : xF) (s n : Nat) (z : xS) : x_to q_k94 C s (n + 1) 37 z = x_nx q_k94 C s n ((x_ast 38 2 (fun x => vp_nar .char x)) C z) := x_to_at f94_37 C s n z
theorem f94_38 : x_fetch q_k94 38 = x_lda 39 0 := rfl
theorem t94_38 (C : xF) (s n : Nat) (z : xS) : x_to q_k94 C s (n + 1) 38 z = x_nx q_k94 C s n ((x_lda 39 0) C z) := x_to_at f94_38 C s n z
theorem f94_39 : x_fetch q_k94 39 = x_st (x_dup 40) := rfl
theorem t94_39 (C : xF) (s n : Nat) (z : xS) : x_to q_k94 C s (n + 1) 39 z = x_nx q_k94 C s n ((x_st (x_dup 40)) C z) := x_to_at f94_39 C s n z
theorem f94_40 : x_fetch q_k94 40 = x_gf 43 8 13 := rfl
theorem t94_40 (C : xF) (s n : Nat) (z : xS) : x_to q_k94 C s (n + 1) 40 z = x_nx q_k94 C s n ((x_gf 43 8 13) C z) := x_to_at f94_40 C s n z
theorem f94_43 : x_fetch q_k94 43 = x_st (x_push 44 (.int (1))) := rfl
theorem t94_43 (C : xF) (s n : Nat) (z : xS) : x_to q_k94 C s (n + 1) 43 z = x_nx q_k94 C s n ((x_st (x_push 44 (.int (1)))) C z) := x_to_at f94_43 C s n z
theorem f94_44 : x_fetch q_k94 44 = x_st (x_bin 45 (fun a b => a + b)) := rfl
theorem t94_44 (C : xF) (s n : Nat) (z : xS) : x_to q_k94 C s (n + 1) 44 z = x_nx q_k94 C s n ((x_st (x_bin 45 (fun a b => a + b))) C z) := x_to_at f94_44 C s n z
theorem f94_45 : x_fetch q_k94 45 = x_pf 48 8 13 (.int) := rfl
theorem t94_45 (C : xF) (s n : Nat) (z : xS) : x_to q_k94 C s (n + 1) 45 z = x_nx q_k94 C s n ((x_pf 48 8 13 (.int)) C z) := x_to_at f94_45 C s n z
theorem f94_48 : x_fetch q_k94 48 = x_st (x_push 49 (.int (1))) := rfl
theorem t94_48 (C : xF) (s n : Nat) (z : xS) : x_to q_k94 C s (n + 1) 48 z = x_nx q_k94 C s n ((x_st (x_push 49 (.int (1)))) C z) := x_to_at f94_48 C s n z
theorem f94_49 : x_fetch q_k94 49 = x_ri (.boolean) := rfl
theorem t94_49 (C : xF) (s n : Nat) (z : xS) : x_to q_k94 C s (n + 1) 49 z = x_nx q_k94 C s n ((x_ri (.boolean)) C z) := x_to_at f94_49 C s n z
theorem f132_0 : x_fetch q_k132 0 = x_lda 1 0 := rfl
theorem t132_0 (C : xF) (s n : Nat) (z : xS) : x_to q_k132 C s (n + 1) 0 z = x_nx q_k132 C s n ((x_lda 1 0) C z) := x_to_at f132_0 C s n z
theorem f132_1 : x_fetch q_k132 1 = x_st (x_push 2 (.int (0))) := rfl
theorem t132_1 (C : xF) (s n : Nat) (z : xS) : x_to q_k132 C s (n + 1) 1 z = x_nx q_k132 C s n ((x_st (x_push 2 (.int (0)))) C z) := x_to_at f132_1 C s n z
theorem f132_2 : x_fetch q_k132 2 = x_pf 5 8 0 (.int) := rfl
theorem t132_2 (C : xF) (s n : Nat) (z : xS) : x_to q_k132 C s (n + 1) 2 z = x_nx q_k132 C s n ((x_pf 5 8 0 (.int)) C z) := x_to_at f132_2 C s n z
theorem f132_5 : x_fetch q_k132 5 = x_lda 6 0 := rfl
theorem t132_5 (C : xF) (s n : Nat) (z : xS) : x_to q_k132 C s (n + 1) 5 z = x_nx q_k132 C s n ((x_lda 6 0) C z) := x_to_at f132_5 C s n z
theorem f132_6 : x_fetch q_k132 6 = x_gf 9 8 1 := rfl
theorem t132_6 (C : xF) (s n : Nat) (z : xS) : x_to q_k132 C s (n + 1) 6 z = x_nx q_k132 C s n ((x_gf 9 8 1) C z) := x_to_at f132_6 C s n z
theorem f132_9 : x_fetch q_k132 9 = x_ri (.int) := rfl
theorem t132_9 (C : xF) (s n : Nat) (z : xS) : x_to q_k132 C s (n + 1) 9 z = x_nx q_k132 C s n ((x_ri (.int)) C z) := x_to_at f132_9 C s n z
theorem f133_0 : x_fetch q_k133 0 = x_lda 1 0 := rfl
theorem t133_0 (C : xF) (s n : Nat) (z : xS) : x_to q_k133 C s (n + 1) 0 z = x_nx q_k133 C s n ((x_lda 1 0) C z) := x_to_at f133_0 C s n z
theorem f133_1 : x_fetch q_k133 1 = x_st (x_push 2 (.int (0))) := rfl
theorem t133_1 (C : xF) (s n : Nat) (z : xS) : x_to q_k133 C s (n + 1) 1 z = x_nx q_k133 C s n ((x_st (x_push 2 (.int (0)))) C z) := x_to_at f133_1 C s n z
theorem f133_2 : x_fetch q_k133 2 = x_pf 5 8 0 (.int) := rfl
theorem t133_2 (C : xF) (s n : Nat) (z : xS) : x_to q_k133 C s (n + 1) 2 z = x_nx q_k133 C s n ((x_pf 5 8 0 (.int)) C z) := x_to_at f133_2 C s n z
theorem f133_5 : x_fetch q_k133 5 = x_lda 6 0 := rfl
theorem t133_5 (C : xF) (s n : Nat) (z : xS) : x_to q_k133 C s (n + 1) 5 z = x_nx q_k133 C s n ((x_lda 6 0) C z) := x_to_at f133_5 C s n z
theorem f133_6 : x_fetch q_k133 6 = x_gf 9 8 2 := rfl
theorem t133_6 (C : xF) (s n : Nat) (z : xS) : x_to q_k133 C s (n + 1) 6 z = x_nx q_k133 C s n ((x_gf 9 8 2) C z) := x_to_at f133_6 C s n z
theorem f133_9 : x_fetch q_k133 9 = x_ri (.int) := rfl
theorem t133_9 (C : xF) (s n : Nat) (z : xS) : x_to q_k133 C s (n + 1) 9 z = x_nx q_k133 C s n ((x_ri (.int)) C z) := x_to_at f133_9 C s n z
theorem f134_0 : x_fetch q_k134 0 = x_ldi 1 1 := rfl
theorem t134_0 (C : xF) (s n : Nat) (z : xS) : x_to q_k134 C s (n + 1) 0 z = x_nx q_k134 C s n ((x_ldi 1 1) C z) := x_to_at f134_0 C s n z
theorem f134_1 : x_fetch q_k134 1 = x_st (x_iflt 16 4) := rfl
theorem t134_1 (C : xF) (s n : Nat) (z : xS) : x_to q_k134 C s (n + 1) 1 z = x_nx q_k134 C s n ((x_st (x_iflt 16 4)) C z) := x_to_at f134_1 C s n z
theorem f134_4 : x_fetch q_k134 4 = x_ldi 5 1 := rfl
theorem t134_4 (C : xF) (s n : Nat) (z : xS) : x_to q_k134 C s (n + 1) 4 z = x_nx q_k134 C s n ((x_ldi 5 1) C z) := x_to_at f134_4 C s n z
theorem f134_5 : x_fetch q_k134 5 = x_lda 6 0 := rfl
theorem t134_5 (C : xF) (s n : Nat) (z : xS) : x_to q_k134 C s (n + 1) 5 z = x_nx q_k134 C s n ((x_lda 6 0) C z) := x_to_at f134_5 C s n z
theorem f134_6 : x_fetch q_k134 6 = x_gf 9 8 2 := rfl
theorem t134_6 (C : xF) (s n : Nat) (z : xS) : x_to q_k134 C s (n + 1) 6 z = x_nx q_k134 C s n ((x_gf 9 8 2) C z) := x_to_at f134_6 C s n z
theorem f134_9 : x_fetch q_k134 9 = x_st (x_icge 16 12) := rfl
theorem t134_9 (C : xF) (s n : Nat) (z : xS) : x_to q_k134 C s (n + 1) 9 z = x_nx q_k134 C s n ((x_st (x_icge 16 12)) C z) := x_to_at f134_9 C s n z
theorem f134_12 : x_fetch q_k134 12 = x_st (x_push 13 (.int (1))) := rfl
theorem t134_12 (C : xF) (s n : Nat) (z : xS) : x_to q_k134 C s (n + 1) 12 z = x_nx q_k134 C s n ((x_st (x_push 13 (.int (1)))) C z) := x_to_at f134_12 C s n z
theorem f134_13 : x_fetch q_k134 13 = x_st (x_goto 17) := rfl
theorem t134_13 (C : xF) (s n : Nat) (z : xS) : x_to q_k134 C s (n + 1) 13 z = x_nx q_k134 C s n ((x_st (x_goto 17)) C z) := x_to_at f134_13 C s n z
theorem f134_16 : x_fetch q_k134 16 = x_st (x_push 17 (.int (0))) := rfl
theorem t134_16 (C : xF) (s n : Nat) (z : xS) : x_to q_k134 C s (n + 1) 16 z = x_nx q_k134 C s n ((x_st (x_push 17 (.int (0)))) C z) := x_to_at f134_16 C s n z
theorem f134_17 : x_fetch q_k134 17 = x_ri (.boolean) := rfl
theorem t134_17 (C : xF) (s n : Nat) (z : xS) : x_to q_k134 C s (n + 1) 17 z = x_nx q_k134 C s n ((x_ri (.boolean)) C z) := x_to_at f134_17 C s n z
theorem f135_0 : x_fetch q_k135 0 = x_lda 1 0 := rfl
theorem t135_0 (C : xF) (s n : Nat) (z : xS) : x_to q_k135 C s (n + 1) 0 z = x_nx q_k135 C s n ((x_lda 1 0) C z) := x_to_at f135_0 C s n z
theorem f135_1 : x_fetch q_k135 1 = x_st (x_push 2 (.int (0))) := rfl
theorem t135_1 (C : xF) (s n : Nat) (z : xS) : x_to q_k135 C s (n + 1) 1 z = x_nx q_k135 C s n ((x_st (x_push 2 (.int (0)))) C z) := x_to_at f135_1 C s n z
theorem f135_2 : x_fetch q_k135 2 = x_pf 5 8 0 (.int) := rfl
theorem t135_2 (C : xF) (s n : Nat) (z : xS) : x_to q_k135 C s (n + 1) 2 z = x_nx q_k135 C s n ((x_pf 5 8 0 (.int)) C z) := x_to_at f135_2 C s n z
theorem f135_5 : x_fetch q_k135 5 = x_lda 6 0 := rfl
theorem t135_5 (C : xF) (s n : Nat) (z : xS) : x_to q_k135 C s (n + 1) 5 z = x_nx q_k135 C s n ((x_lda 6 0) C z) := x_to_at f135_5 C s n z
theorem f135_6 : x_fetch q_k135 6 = x_ldi 7 1 := rfl
theorem t135_6 (C : xF) (s n : Nat) (z : xS) : x_to q_k135 C s (n + 1) 6 z = x_nx q_k135 C s n ((x_ldi 7 1) C z) := x_to_at f135_6 C s n z
theorem f135_7 : x_fetch q_k135 7 = x_cv 10 134 2 8 := rfl
theorem t135_7 (C : xF) (s n : Nat) (z : xS) : x_to q_k135 C s (n + 1) 7 z = x_nx q_k135 C s n ((x_cv 10 134 2 8) C z) := x_to_at f135_7 C s n z
theorem f135_10 : x_fetch q_k135 10 = x_st (x_ifeq 22 13) := rfl
theorem t135_10 (C : xF) (s n : Nat) (z : xS) : x_to q_k135 C s (n + 1) 10 z = x_nx q_k135 C s n ((x_st (x_ifeq 22 13)) C z) := x_to_at f135_10 C s n z
theorem f135_13 : x_fetch q_k135 13 = x_lda 14 0 := rfl
theorem t135_13 (C : xF) (s n : Nat) (z : xS) : x_to q_k135 C s (n + 1) 13 z = x_nx q_k135 C s n ((x_lda 14 0) C z) := x_to_at f135_13 C s n z
theorem f135_14 : x_fetch q_k135 14 = x_gf 17 8 5 := rfl
theorem t135_14 (C : xF) (s n : Nat) (z : xS) : x_to q_k135 C s (n + 1) 14 z = x_nx q_k135 C s n ((x_gf 17 8 5) C z) := x_to_at f135_14 C s n z
theorem f135_17 : x_fetch q_k135 17 = x_ldi 18 1 := rfl
theorem t135_17 (C : xF) (s n : Nat) (z : xS) : x_to q_k135 C s (n + 1) 17 z = x_nx q_k135 C s n ((x_ldi 18 1) C z) := x_to_at f135_17 C s n z
theorem f135_18 : x_fetch q_k135 18 = x_ald 19 0 := rfl
theorem t135_18 (C : xF) (s n : Nat) (z : xS) : x_to q_k135 C s (n + 1) 18 z = x_nx q_k135 C s n ((x_ald 19 0) C z) := x_to_at f135_18 C s n z
theorem f135_19 : x_fetch q_k135 19 = x_st (x_goto 23) := rfl
theorem t135_19 (C : xF) (s n : Nat) (z : xS) : x_to q_k135 C s (n + 1) 19 z = x_nx q_k135 C s n ((x_st (x_goto 23)) C z) := x_to_at f135_19 C s n z
theorem f135_22 : x_fetch q_k135 22 = x_st (x_push 23 (.int (-1))) := rfl
theorem t135_22 (C : xF) (s n : Nat) (z : xS) : x_to q_k135 C s (n + 1) 22 z = x_nx q_k135 C s n ((x_st (x_push 23 (.int (-1)))) C z) := x_to_at f135_22 C s n z
theorem f135_23 : x_fetch q_k135 23 = x_ri (.int) := rfl
theorem t135_23 (C : xF) (s n : Nat) (z : xS) : x_to q_k135 C s (n + 1) 23 z = x_nx q_k135 C s n ((x_ri (.int)) C z) := x_to_at f135_23 C s n z
theorem f136_0 : x_fetch q_k136 0 = x_lda 1 0 := rfl
theorem t136_0 (C : xF) (s n : Nat) (z : xS) : x_to q_k136 C s (n + 1) 0 z = x_nx q_k136 C s n ((x_lda 1 0) C z) := x_to_at f136_0 C s n z
theorem f136_1 : x_fetch q_k136 1 = x_st (x_push 2 (.int (0))) := rfl
theorem t136_1 (C : xF) (s n : Nat) (z : xS) : x_to q_k136 C s (n + 1) 1 z = x_nx q_k136 C s n ((x_st (x_push 2 (.int (0)))) C z) := x_to_at f136_1 C s n z
theorem f136_2 : x_fetch q_k136 2 = x_pf 5 8 0 (.int) := rfl
theorem t136_2 (C : xF) (s n : Nat) (z : xS) : x_to q_k136 C s (n + 1) 2 z = x_nx q_k136 C s n ((x_pf 5 8 0 (.int)) C z) := x_to_at f136_2 C s n z
theorem f136_5 : x_fetch q_k136 5 = x_lda 6 0 := rfl
theorem t136_5 (C : xF) (s n : Nat) (z : xS) : x_to q_k136 C s (n + 1) 5 z = x_nx q_k136 C s n ((x_lda 6 0) C z) := x_to_at f136_5 C s n z
theorem f136_6 : x_fetch q_k136 6 = x_ldi 7 1 := rfl
theorem t136_6 (C : xF) (s n : Nat) (z : xS) : x_to q_k136 C s (n + 1) 6 z = x_nx q_k136 C s n ((x_ldi 7 1) C z) := x_to_at f136_6 C s n z
theorem f136_7 : x_fetch q_k136 7 = x_cv 10 134 2 8 := rfl
theorem t136_7 (C : xF) (s n : Nat) (z : xS) : x_to q_k136 C s (n + 1) 7 z = x_nx q_k136 C s n ((x_cv 10 134 2 8) C z) := x_to_at f136_7 C s n z
theorem f136_10 : x_fetch q_k136 10 = x_st (x_ifeq 32 13) := rfl
theorem t136_10 (C : xF) (s n : Nat) (z : xS) : x_to q_k136 C s (n + 1) 10 z = x_nx q_k136 C s n ((x_st (x_ifeq 32 13)) C z) := x_to_at f136_10 C s n z
theorem f136_13 : x_fetch q_k136 13 = x_lda 14 0 := rfl
theorem t136_13 (C : xF) (s n : Nat) (z : xS) : x_to q_k136 C s (n + 1) 13 z = x_nx q_k136 C s n ((x_lda 14 0) C z) := x_to_at f136_13 C s n z
theorem f136_14 : x_fetch q_k136 14 = x_gf 17 8 4 := rfl
theorem t136_14 (C : xF) (s n : Nat) (z : xS) : x_to q_k136 C s (n + 1) 14 z = x_nx q_k136 C s n ((x_gf 17 8 4) C z) := x_to_at f136_14 C s n z
theorem f136_17 : x_fetch q_k136 17 = x_st (x_push 19 (.int (7))) := rfl
theorem t136_17 (C : xF) (s n : Nat) (z : xS) : x_to q_k136 C s (n + 1) 17 z = x_nx q_k136 C s n ((x_st (x_push 19 (.int (7)))) C z) := x_to_at f136_17 C s n z
theorem f136_19 : x_fetch q_k136 19 = x_ldi 20 1 := rfl
theorem t136_19 (C : xF) (s n : Nat) (z : xS) : x_to q_k136 C s (n + 1) 19 z = x_nx q_k136 C s n ((x_ldi 20 1) C z) := x_to_at f136_19 C s n z
theorem f136_20 : x_fetch q_k136 20 = x_st (x_bin 21 (fun a b => a * b)) := rfl
theorem t136_20 (C : xF) (s n : Nat) (z : xS) : x_to q_k136 C s (n + 1) 20 z = x_nx q_k136 C s n ((x_st (x_bin 21 (fun a b => a * b))) C z) := x_to_at f136_20 C s n z
theorem f136_21 : x_fetch q_k136 21 = x_lda 22 0 := rfl
theorem t136_21 (C : xF) (s n : Nat) (z : xS) : x_to q_k136 C s (n + 1) 21 z = x_nx q_k136 C s n ((x_lda 22 0) C z) := x_to_at f136_21 C s n z
theorem f136_22 : x_fetch q_k136 22 = x_gf 25 8 5 := rfl
theorem t136_22 (C : xF) (s n : Nat) (z : xS) : x_to q_k136 C s (n + 1) 22 z = x_nx q_k136 C s n ((x_gf 25 8 5) C z) := x_to_at f136_22 C s n z
theorem f136_25 : x_fetch q_k136 25 = x_ldi 26 1 := rfl
theorem t136_25 (C : xF) (s n : Nat) (z : xS) : x_to q_k136 C s (n + 1) 25 z = x_nx q_k136 C s n ((x_ldi 26 1) C z) := x_to_at f136_25 C s n z
theorem f136_26 : x_fetch q_k136 26 = x_ald 27 0 := rfl
theorem t136_26 (C : xF) (s n : Nat) (z : xS) : x_to q_k136 C s (n + 1) 26 z = x_nx q_k136 C s n ((x_ald 27 0) C z) := x_to_at f136_26 C s n z
theorem f136_27 : x_fetch q_k136 27 = x_st (x_bin 28 (fun a b => a + b)) := rfl
theorem t136_27 (C : xF) (s n : Nat) (z : xS) : x_to q_k136 C s (n + 1) 27 z = x_nx q_k136 C s n ((x_st (x_bin 28 (fun a b => a + b))) C z) := x_to_at f136_27 C s n z
theorem f136_28 : x_fetch q_k136 28 = x_ald 29 0 := rfl
theorem t136_28 (C : xF) (s n : Nat) (z : xS) : x_to q_k136 C s (n + 1) 28 z = x_nx q_k136 C s n ((x_ald 29 0) C z) := x_to_at f136_28 C s n z
theorem f136_29 : x_fetch q_k136 29 = x_st (x_goto 33) := rfl
theorem t136_29 (C : xF) (s n : Nat) (z : xS) : x_to q_k136 C s (n + 1) 29 z = x_nx q_k136 C s n ((x_st (x_goto 33)) C z) := x_to_at f136_29 C s n z
theorem f136_32 : x_fetch q_k136 32 = x_st (x_push 33 (.int (-1))) := rfl
theorem t136_32 (C : xF) (s n : Nat) (z : xS) : x_to q_k136 C s (n + 1) 32 z = x_nx q_k136 C s n ((x_st (x_push 33 (.int (-1)))) C z) := x_to_at f136_32 C s n z
theorem f136_33 : x_fetch q_k136 33 = x_ri (.int) := rfl
theorem t136_33 (C : xF) (s n : Nat) (z : xS) : x_to q_k136 C s (n + 1) 33 z = x_nx q_k136 C s n ((x_ri (.int)) C z) := x_to_at f136_33 C s n z
theorem f141_0 : x_fetch q_k141 0 = x_lda 1 0 := rfl
theorem t141_0 (C : xF) (s n : Nat) (z : xS) : x_to q_k141 C s (n + 1) 0 z = x_nx q_k141 C s n ((x_lda 1 0) C z) := x_to_at f141_0 C s n z
theorem f141_1 : x_fetch q_k141 1 = x_st (x_push 2 (.int (0))) := rfl
theorem t141_1 (C : xF) (s n : Nat) (z : xS) : x_to q_k141 C s (n + 1) 1 z = x_nx q_k141 C s n ((x_st (x_push 2 (.int (0)))) C z) := x_to_at f141_1 C s n z
theorem f141_2 : x_fetch q_k141 2 = x_pf 5 8 0 (.int) := rfl
theorem t141_2 (C : xF) (s n : Nat) (z : xS) : x_to q_k141 C s (n + 1) 2 z = x_nx q_k141 C s n ((x_pf 5 8 0 (.int)) C z) := x_to_at f141_2 C s n z
theorem f141_5 : x_fetch q_k141 5 = x_lda 6 0 := rfl
theorem t141_5 (C : xF) (s n : Nat) (z : xS) : x_to q_k141 C s (n + 1) 5 z = x_nx q_k141 C s n ((x_lda 6 0) C z) := x_to_at f141_5 C s n z
theorem f141_6 : x_fetch q_k141 6 = x_ldi 7 1 := rfl
theorem t141_6 (C : xF) (s n : Nat) (z : xS) : x_to q_k141 C s (n + 1) 6 z = x_nx q_k141 C s n ((x_ldi 7 1) C z) := x_to_at f141_6 C s n z
theorem f141_7 : x_fetch q_k141 7 = x_cv 10 134 2 8 := rfl
theorem t141_7 (C : xF) (s n : Nat) (z : xS) : x_to q_k141 C s (n + 1) 7 z = x_nx q_k141 C s n ((x_cv 10 134 2 8) C z) := x_to_at f141_7 C s n z
theorem f141_10 : x_fetch q_k141 10 = x_st (x_ifeq 22 13) := rfl
theorem t141_10 (C : xF) (s n : Nat) (z : xS) : x_to q_k141 C s (n + 1) 10 z = x_nx q_k141 C s n ((x_st (x_ifeq 22 13)) C z) := x_to_at f141_10 C s n z
theorem f141_13 : x_fetch q_k141 13 = x_lda 14 0 := rfl
theorem t141_13 (C : xF) (s n : Nat) (z : xS) : x_to q_k141 C s (n + 1) 13 z = x_nx q_k141 C s n ((x_lda 14 0) C z) := x_to_at f141_13 C s n z
theorem f141_14 : x_fetch q_k141 14 = x_gf 17 8 6 := rfl
theorem t141_14 (C : xF) (s n : Nat) (z : xS) : x_to q_k141 C s (n + 1) 14 z = x_nx q_k141 C s n ((x_gf 17 8 6) C z) := x_to_at f141_14 C s n z
theorem f141_17 : x_fetch q_k141 17 = x_ldi 18 1 := rfl
theorem t141_17 (C : xF) (s n : Nat) (z : xS) : x_to q_k141 C s (n + 1) 17 z = x_nx q_k141 C s n ((x_ldi 18 1) C z) := x_to_at f141_17 C s n z
theorem f141_18 : x_fetch q_k141 18 = x_ald 19 0 := rfl
theorem t141_18 (C : xF) (s n : Nat) (z : xS) : x_to q_k141 C s (n + 1) 18 z = x_nx q_k141 C s n ((x_ald 19 0) C z) := x_to_at f141_18 C s n z
theorem f141_19 : x_fetch q_k141 19 = x_st (x_goto 23) := rfl
theorem t141_19 (C : xF) (s n : Nat) (z : xS) : x_to q_k141 C s (n + 1) 19 z = x_nx q_k141 C s n ((x_st (x_goto 23)) C z) := x_to_at f141_19 C s n z
theorem f141_22 : x_fetch q_k141 22 = x_st (x_push 23 (.int (-1))) := rfl
theorem t141_22 (C : xF) (s n : Nat) (z : xS) : x_to q_k141 C s (n + 1) 22 z = x_nx q_k141 C s n ((x_st (x_push 23 (.int (-1)))) C z) := x_to_at f141_22 C s n z
theorem f141_23 : x_fetch q_k141 23 = x_ri (.int) := rfl
theorem t141_23 (C : xF) (s n : Nat) (z : xS) : x_to q_k141 C s (n + 1) 23 z = x_nx q_k141 C s n ((x_ri (.int)) C z) := x_to_at f141_23 C s n z
theorem f142_0 : x_fetch q_k142 0 = x_lda 1 0 := rfl
theorem t142_0 (C : xF) (s n : Nat) (z : xS) : x_to q_k142 C s (n + 1) 0 z = x_nx q_k142 C s n ((x_lda 1 0) C z) := x_to_at f142_0 C s n z
theorem f142_1 : x_fetch q_k142 1 = x_st (x_push 2 (.int (0))) := rfl
theorem t142_1 (C : xF) (s n : Nat) (z : xS) : x_to q_k142 C s (n + 1) 1 z = x_nx q_k142 C s n ((x_st (x_push 2 (.int (0)))) C z) := x_to_at f142_1 C s n z
theorem f142_2 : x_fetch q_k142 2 = x_pf 5 8 0 (.int) := rfl
theorem t142_2 (C : xF) (s n : Nat) (z : xS) : x_to q_k142 C s (n + 1) 2 z = x_nx q_k142 C s n ((x_pf 5 8 0 (.int)) C z) := x_to_at f142_2 C s n z
theorem f142_5 : x_fetch q_k142 5 = x_lda 6 0 := rfl
theorem t142_5 (C : xF) (s n : Nat) (z : xS) : x_to q_k142 C s (n + 1) 5 z = x_nx q_k142 C s n ((x_lda 6 0) C z) := x_to_at f142_5 C s n z
theorem f142_6 : x_fetch q_k142 6 = x_ldi 7 1 := rfl
theorem t142_6 (C : xF) (s n : Nat) (z : xS) : x_to q_k142 C s (n + 1) 6 z = x_nx q_k142 C s n ((x_ldi 7 1) C z) := x_to_at f142_6 C s n z
theorem f142_7 : x_fetch q_k142 7 = x_cv 10 134 2 8 := rfl
theorem t142_7 (C : xF) (s n : Nat) (z : xS) : x_to q_k142 C s (n + 1) 7 z = x_nx q_k142 C s n ((x_cv 10 134 2 8) C z) := x_to_at f142_7 C s n z
theorem f142_10 : x_fetch q_k142 10 = x_st (x_ifeq 48 13) := rfl
theorem t142_10 (C : xF) (s n : Nat) (z : xS) : x_to q_k142 C s (n + 1) 10 z = x_nx q_k142 C s n ((x_st (x_ifeq 48 13)) C z) := x_to_at f142_10 C s n z
theorem f142_13 : x_fetch q_k142 13 = x_lda 14 0 := rfl
theorem t142_13 (C : xF) (s n : Nat) (z : xS) : x_to q_k142 C s (n + 1) 13 z = x_nx q_k142 C s n ((x_lda 14 0) C z) := x_to_at f142_13 C s n z
theorem f142_14 : x_fetch q_k142 14 = x_ldi 15 2 := rfl
theorem t142_14 (C : xF) (s n : Nat) (z : xS) : x_to q_k142 C s (n + 1) 14 z = x_nx q_k142 C s n ((x_ldi 15 2) C z) := x_to_at f142_14 C s n z
theorem f142_15 : x_fetch q_k142 15 = x_cv 18 134 2 8 := rfl
theorem t142_15 (C : xF) (s n : Nat) (z : xS) : x_to q_k142 C s (n + 1) 15 z = x_nx q_k142 C s n ((x_cv 18 134 2 8) C z) := x_to_at f142_15 C s n z
theorem f142_18 : x_fetch q_k142 18 = x_st (x_ifeq 48 21) := rfl
theorem t142_18 (C : xF) (s n : Nat) (z : xS) : x_to q_k142 C s (n + 1) 18 z = x_nx q_k142 C s n ((x_st (x_ifeq 48 21)) C z) := x_to_at f142_18 C s n z
theorem f142_21 : x_fetch q_k142 21 = x_lda 22 0 := rfl
theorem t142_21 (C : xF) (s n : Nat) (z : xS) : x_to q_k142 C s (n + 1) 21 z = x_nx q_k142 C s n ((x_lda 22 0) C z) := x_to_at f142_21 C s n z
theorem f142_22 : x_fetch q_k142 22 = x_gf 25 8 9 := rfl
theorem t142_22 (C : xF) (s n : Nat) (z : xS) : x_to q_k142 C s (n + 1) 22 z = x_nx q_k142 C s n ((x_gf 25 8 9) C z) := x_to_at f142_22 C s n z
theorem f142_25 : x_fetch q_k142 25 = x_ldi 26 2 := rfl
theorem t142_25 (C : xF) (s n : Nat) (z : xS) : x_to q_k142 C s (n + 1) 25 z = x_nx q_k142 C s n ((x_ldi 26 2) C z) := x_to_at f142_25 C s n z
theorem f142_26 : x_fetch q_k142 26 = x_ald 27 1 := rfl
theorem t142_26 (C : xF) (s n : Nat) (z : xS) : x_to q_k142 C s (n + 1) 26 z = x_nx q_k142 C s n ((x_ald 27 1) C z) := x_to_at f142_26 C s n z
theorem f142_27 : x_fetch q_k142 27 = x_st (x_ifeq 48 30) := rfl
theorem t142_27 (C : xF) (s n : Nat) (z : xS) : x_to q_k142 C s (n + 1) 27 z = x_nx q_k142 C s n ((x_st (x_ifeq 48 30)) C z) := x_to_at f142_27 C s n z
theorem f142_30 : x_fetch q_k142 30 = x_lda 31 0 := rfl
theorem t142_30 (C : xF) (s n : Nat) (z : xS) : x_to q_k142 C s (n + 1) 30 z = x_nx q_k142 C s n ((x_lda 31 0) C z) := x_to_at f142_30 C s n z
theorem f142_31 : x_fetch q_k142 31 = x_gf 34 8 7 := rfl
theorem t142_31 (C : xF) (s n : Nat) (z : xS) : x_to q_k142 C s (n + 1) 31 z = x_nx q_k142 C s n ((x_gf 34 8 7) C z) := x_to_at f142_31 C s n z
theorem f142_34 : x_fetch q_k142 34 = x_ldi 35 1 := rfl
theorem t142_34 (C : xF) (s n : Nat) (z : xS) : x_to q_k142 C s (n + 1) 34 z = x_nx q_k142 C s n ((x_ldi 35 1) C z) := x_to_at f142_34 C s n z
theorem f142_35 : x_fetch q_k142 35 = x_ald 36 0 := rfl
theorem t142_35 (C : xF) (s n : Nat) (z : xS) : x_to q_k142 C s (n + 1) 35 z = x_nx q_k142 C s n ((x_ald 36 0) C z) := x_to_at f142_35 C s n z
theorem f142_36 : x_fetch q_k142 36 = x_ldi 37 2 := rfl
theorem t142_36 (C : xF) (s n : Nat) (z : xS) : x_to q_k142 C s (n + 1) 36 z = x_nx q_k142 C s n ((x_ldi 37 2) C z) := x_to_at f142_36 C s n z
theorem f142_37 : x_fetch q_k142 37 = x_st (x_bin 38 (fun a b => a >>> (b &&& 31))) := rfl
theorem t142_37 (C : xF) (s n : Nat) (z : xS) : x_to q_k142 C s (n + 1) 37 z = x_nx q_k142 C s n ((x_st (x_bin 38 (fun a b => a >>> (b &&& 31)))) C z) := x_to_at f142_37 C s n z
theorem f142_38 : x_fetch q_k142 38 = x_st (x_push 39 (.int (1))) := rfl
theorem t142_38 (C : xF) (s n : Nat) (z : xS) : x_to q_k142 C s (n + 1) 38 z = x_nx q_k142 C s n ((x_st (x_push 39 (.int (1)))) C z) := x_to_at f142_38 C s n z
theorem f142_39 : x_fetch q_k142 39 = x_st (x_bin 40 (fun a b => a &&& b)) := rfl
theorem t142_39 (C : xF) (s n : Nat) (z : xS) : x_to q_k142 C s (n + 1) 39 z = x_nx q_k142 C s n ((x_st (x_bin 40 (fun a b => a &&& b))) C z) := x_to_at f142_39 C s n z
theorem f142_40 : x_fetch q_k142 40 = x_st (x_push 41 (.int (1))) := rfl
theorem t142_40 (C : xF) (s n : Nat) (z : xS) : x_to q_k142 C s (n + 1) 40 z = x_nx q_k142 C s n ((x_st (x_push 41 (.int (1)))) C z) := x_to_at f142_40 C s n z
theorem f142_41 : x_fetch q_k142 41 = x_st (x_icne 48 44) := rfl
theorem t142_41 (C : xF) (s n : Nat) (z : xS) : x_to q_k142 C s (n + 1) 41 z = x_nx q_k142 C s n ((x_st (x_icne 48 44)) C z) := x_to_at f142_41 C s n z
theorem f142_44 : x_fetch q_k142 44 = x_st (x_push 45 (.int (1))) := rfl
theorem t142_44 (C : xF) (s n : Nat) (z : xS) : x_to q_k142 C s (n + 1) 44 z = x_nx q_k142 C s n ((x_st (x_push 45 (.int (1)))) C z) := x_to_at f142_44 C s n z
theorem f142_45 : x_fetch q_k142 45 = x_st (x_goto 49) := rfl
theorem t142_45 (C : xF) (s n : Nat) (z : xS) : x_to q_k142 C s (n + 1) 45 z = x_nx q_k142 C s n ((x_st (x_goto 49)) C z) := x_to_at f142_45 C s n z
theorem f142_48 : x_fetch q_k142 48 = x_st (x_push 49 (.int (0))) := rfl
theorem t142_48 (C : xF) (s n : Nat) (z : xS) : x_to q_k142 C s (n + 1) 48 z = x_nx q_k142 C s n ((x_st (x_push 49 (.int (0)))) C z) := x_to_at f142_48 C s n z
theorem f142_49 : x_fetch q_k142 49 = x_ri (.boolean) := rfl
theorem t142_49 (C : xF) (s n : Nat) (z : xS) : x_to q_k142 C s (n + 1) 49 z = x_nx q_k142 C s n ((x_ri (.boolean)) C z) := x_to_at f142_49 C s n z
theorem f143_0 : x_fetch q_k143 0 = x_lda 1 0 := rfl
theorem t143_0 (C : xF) (s n : Nat) (z : xS) : x_to q_k143 C s (n + 1) 0 z = x_nx q_k143 C s n ((x_lda 1 0) C z) := x_to_at f143_0 C s n z
theorem f143_1 : x_fetch q_k143 1 = x_st (x_push 2 (.int (0))) := rfl
theorem t143_1 (C : xF) (s n : Nat) (z : xS) : x_to q_k143 C s (n + 1) 1 z = x_nx q_k143 C s n ((x_st (x_push 2 (.int (0)))) C z) := x_to_at f143_1 C s n z
theorem f143_2 : x_fetch q_k143 2 = x_pf 5 8 0 (.int) := rfl
theorem t143_2 (C : xF) (s n : Nat) (z : xS) : x_to q_k143 C s (n + 1) 2 z = x_nx q_k143 C s n ((x_pf 5 8 0 (.int)) C z) := x_to_at f143_2 C s n z
theorem f143_5 : x_fetch q_k143 5 = x_st (x_push 6 (.int (0))) := rfl
theorem t143_5 (C : xF) (s n : Nat) (z : xS) : x_to q_k143 C s (n + 1) 5 z = x_nx q_k143 C s n ((x_st (x_push 6 (.int (0)))) C z) := x_to_at f143_5 C s n z
theorem f143_6 : x_fetch q_k143 6 = x_sti 7 1 := rfl
theorem t143_6 (C : xF) (s n : Nat) (z : xS) : x_to q_k143 C s (n + 1) 6 z = x_nx q_k143 C s n ((x_sti 7 1) C z) := x_to_at f143_6 C s n z
theorem f143_7 : x_fetch q_k143 7 = x_ldi 8 1 := rfl
theorem t143_7 (C : xF) (s n : Nat) (z : xS) : x_to q_k143 C s (n + 1) 7 z = x_nx q_k143 C s n ((x_ldi 8 1) C z) := x_to_at f143_7 C s n z
theorem f143_8 : x_fetch q_k143 8 = x_lda 9 0 := rfl
theorem t143_8 (C : xF) (s n : Nat) (z : xS) : x_to q_k143 C s (n + 1) 8 z = x_nx q_k143 C s n ((x_lda 9 0) C z) := x_to_at f143_8 C s n z
theorem f143_9 : x_fetch q_k143 9 = x_gf 12 8 2 := rfl
theorem t143_9 (C : xF) (s n : Nat) (z : xS) : x_to q_k143 C s (n + 1) 9 z = x_nx q_k143 C s n ((x_gf 12 8 2) C z) := x_to_at f143_9 C s n z
theorem f143_12 : x_fetch q_k143 12 = x_st (x_icge 32 15) := rfl
theorem t143_12 (C : xF) (s n : Nat) (z : xS) : x_to q_k143 C s (n + 1) 12 z = x_nx q_k143 C s n ((x_st (x_icge 32 15)) C z) := x_to_at f143_12 C s n z
theorem f143_15 : x_fetch q_k143 15 = x_lda 16 0 := rfl
theorem t143_15 (C : xF) (s n : Nat) (z : xS) : x_to q_k143 C s (n + 1) 15 z = x_nx q_k143 C s n ((x_lda 16 0) C z) := x_to_at f143_15 C s n z
theorem f143_16 : x_fetch q_k143 16 = x_gf 19 8 5 := rfl
theorem t143_16 (C : xF) (s n : Nat) (z : xS) : x_to q_k143 C s (n + 1) 16 z = x_nx q_k143 C s n ((x_gf 19 8 5) C z) := x_to_at f143_16 C s n z
theorem f143_19 : x_fetch q_k143 19 = x_ldi 20 1 := rfl
theorem t143_19 (C : xF) (s n : Nat) (z : xS) : x_to q_k143 C s (n + 1) 19 z = x_nx q_k143 C s n ((x_ldi 20 1) C z) := x_to_at f143_19 C s n z
theorem f143_20 : x_fetch q_k143 20 = x_ald 21 0 := rfl
theorem t143_20 (C : xF) (s n : Nat) (z : xS) : x_to q_k143 C s (n + 1) 20 z = x_nx q_k143 C s n ((x_ald 21 0) C z) := x_to_at f143_20 C s n z
theorem f143_21 : x_fetch q_k143 21 = x_st (x_ifne 26 24) := rfl
theorem t143_21 (C : xF) (s n : Nat) (z : xS) : x_to q_k143 C s (n + 1) 21 z = x_nx q_k143 C s n ((x_st (x_ifne 26 24)) C z) := x_to_at f143_21 C s n z
theorem f143_24 : x_fetch q_k143 24 = x_ldi 25 1 := rfl
theorem t143_24 (C : xF) (s n : Nat) (z : xS) : x_to q_k143 C s (n + 1) 24 z = x_nx q_k143 C s n ((x_ldi 25 1) C z) := x_to_at f143_24 C s n z
theorem f143_25 : x_fetch q_k143 25 = x_ri (.int) := rfl
theorem t143_25 (C : xF) (s n : Nat) (z : xS) : x_to q_k143 C s (n + 1) 25 z = x_nx q_k143 C s n ((x_ri (.int)) C z) := x_to_at f143_25 C s n z
theorem f143_26 : x_fetch q_k143 26 = x_iinc 29 1 (1) := rfl
theorem t143_26 (C : xF) (s n : Nat) (z : xS) : x_to q_k143 C s (n + 1) 26 z = x_nx q_k143 C s n ((x_iinc 29 1 (1)) C z) := x_to_at f143_26 C s n z
theorem f143_29 : x_fetch q_k143 29 = x_st (x_goto 7) := rfl
theorem t143_29 (C : xF) (s n : Nat) (z : xS) : x_to q_k143 C s (n + 1) 29 z = x_nx q_k143 C s n ((x_st (x_goto 7)) C z) := x_to_at f143_29 C s n z
theorem f143_32 : x_fetch q_k143 32 = x_st (x_push 33 (.int (-1))) := rfl
theorem t143_32 (C : xF) (s n : Nat) (z : xS) : x_to q_k143 C s (n + 1) 32 z = x_nx q_k143 C s n ((x_st (x_push 33 (.int (-1)))) C z) := x_to_at f143_32 C s n z
theorem f143_33 : x_fetch q_k143 33 = x_ri (.int) := rfl
theorem t143_33 (C : xF) (s n : Nat) (z : xS) : x_to q_k143 C s (n + 1) 33 z = x_nx q_k143 C s n ((x_ri (.int)) C z) := x_to_at f143_33 C s n z
theorem f145_0 : x_fetch q_k145 0 = x_lda 1 0 := rfl
theorem t145_0 (C : xF) (s n : Nat) (z : xS) : x_to q_k145 C s (n + 1) 0 z = x_nx q_k145 C s n ((x_lda 1 0) C z) := x_to_at f145_0 C s n z
theorem f145_1 : x_fetch q_k145 1 = x_st (x_push 2 (.int (0))) := rfl
theorem t145_1 (C : xF) (s n : Nat) (z : xS) : x_to q_k145 C s (n + 1) 1 z = x_nx q_k145 C s n ((x_st (x_push 2 (.int (0)))) C z) := x_to_at f145_1 C s n z
theorem f145_2 : x_fetch q_k145 2 = x_pf 5 8 0 (.int) := rfl
theorem t145_2 (C : xF) (s n : Nat) (z : xS) : x_to q_k145 C s (n + 1) 2 z = x_nx q_k145 C s n ((x_pf 5 8 0 (.int)) C z) := x_to_at f145_2 C s n z
theorem f145_5 : x_fetch q_k145 5 = x_lda 6 0 := rfl
theorem t145_5 (C : xF) (s n : Nat) (z : xS) : x_to q_k145 C s (n + 1) 5 z = x_nx q_k145 C s n ((x_lda 6 0) C z) := x_to_at f145_5 C s n z
theorem f145_6 : x_fetch q_k145 6 = x_gf 9 8 13 := rfl
theorem t145_6 (C : xF) (s n : Nat) (z : xS) : x_to q_k145 C s (n + 1) 6 z = x_nx q_k145 C s n ((x_gf 9 8 13) C z) := x_to_at f145_6 C s n z
theorem f145_9 : x_fetch q_k145 9 = x_ri (.int) := rfl
theorem t145_9 (C : xF) (s n : Nat) (z : xS) : x_to q_k145 C s (n + 1) 9 z = x_nx q_k145 C s n ((x_ri (.int)) C z) := x_to_at f145_9 C s n z
theorem nar_ch : ∀ n : Fin 128, vp_nar .char (iZ ((n : Nat) : Int)) = iZ ((n : Nat) : Int) := by decide
theorem nar_c {c : Int} (h0 : 0 ≤ c) (h1 : c < 128) : vp_nar .char (iZ c) = iZ c := by
  have := nar_ch ⟨c.toNat, by omega⟩
  rw [show (((⟨c.toNat, by omega⟩ : Fin 128) : Nat) : Int) = c by show ((c.toNat : Nat) : Int) = c; omega] at this
  exact this
section AN
variable {w : Nat → xC} {N : Nat} {m : Nat → Int} {x : Nat → List Int} {Ds : List (List (Int × List Int) × Bool × Int × Int)} {T U : List Int}
theorem RS.z0 (h : RS w m x Ds T U) : RS (uH w 27 (.inr (8, mF (st_ m 0 0)))) (st_ m 0 0) x Ds T U := by
  have h' := h
  obtain ⟨h1, h2, h3, h4, h5, h6, h7, h8, h9, h10, h11⟩ := h'
  exact h.mv (h1.fld _) h2 (fun _ _ _ => rfl) (by rw [st_ne (by decide)]) (by rw [st_ne (by decide)]; exact h8) h9 h10 h11
theorem m92 (d : Nat) (hN : 53 ≤ N) (h : RS w m x Ds T U) : Xc (d + 1) 92 [.ref 30] (hp w N) (some (.int (iZ (m 0))), hp w N) := by
  have hm := h.1.1
  refine Xc.of rfl (by simp [lg_sl, Value.category]) ?_ (x_le.rf)
  have hc : c1 (lv_args 0 [.ref 30]) := by simp [c1, lv_args, Value.category]
  have l0 : x_lk (lv_args 0 [.ref 30]) 0 = some (.ref 30) := rfl
  generalize lv_args 0 [.ref 30] = lv at hc l0
  refine Gx.fin 20 Cs.tt (fun K _ => ?_)
  simp (disch := first | (refine c1_id ?_; assumption) | (refine c1_st rfl ?_; repeat (first | assumption | refine c1_st rfl ?_)) | omega) [nx_l, nx_r, nx_n, x_st, x_push, x_bin, x_div, x_un, x_dup, x_pop, x_dup2, x_goto, x_ifeq, x_ifne, x_iflt, x_ifge, x_ifgt, x_ifle, x_iceq, x_icne, x_iclt, x_icge, x_icgt, x_icle, x_ifnull, x_ifnonnull, x_ldi, x_lda, x_sti, x_sta, x_iinc, x_gf, x_pf, x_ald, x_ast, x_aln, x_len, x_cl_, x_cv, x_cs, x_rc, x_r0, x_isT, x_oi, x_rv, x_ri, x_ra, Value.category, t92_0, t92_1, t92_4, lk_s, hp_get, hp_set, uH_at, uH_ne, uH_upd, uH_swap, iZ_add, iZ_sub, iZ_mul, iZ_neg, iZ_lt, iZ_le, iZ_eq, iZ_div, iZ_of, ix_Z, gZ_map, gZ_mapI, gZ_map', le_0, le_s, sZ_map, sZ_len, bZ_0, bZ_inj, bZ_t, bZ_f, nr_i, nr_0, nr_1, nr_b, ft_i, ft_b, ft_0, ft_1, zl_0, zl_1, mF_len, mg_0, mg_1, mg_2, mg_3, mg_4, mg_5, mg_6, mg_7, mg_8, mg_9, mg_10, mg_11, mg_12, mg_13, mg_14, mg_15, mg_16, mg_17, mg_18, mg_19, mg_20, mg_21, mg_22, mg_23, mg_24, mg_25, mg_26, mg_27, mg_28, mg_29, mg_30, mg_31, mg_32, mg_33, mg_34, mg_35, mg_36, mg_37, mg_38, ms_0, ms_1, ms_2, ms_13, ms_14, ms_15, ms_16, ms_21, ms_22, ms_23, ms_24, ms_28, ms_36, ms_37, ms_38, st_at, st_ne, st_st, st_swap, l0, hm, -List.filter_filter, -List.getElem?_map, -List.getD_eq_getElem?_getD]
def inC (Ds : List (List (Int × List Int) × Bool × Int × Int)) (c : Int) : Bool := decide (0 ≤ c ∧ c < Ds.length)
theorem m134 (d : Nat) (hN : 53 ≤ N) (h : RS w m x Ds T U) (c : Int) (cr : -2147483648 ≤ c ∧ c < 2147483648) : Xc (d + 1) 134 [.ref 30, .int (iZ c)] (hp w N) (some (.int (iZ (bZ (inC Ds c)))), hp w N) := by
  obtain ⟨h1, h2, h3, h4, h5⟩ := h
  have hm := h1.1
  refine Xc.of rfl (by simp [lg_sl, Value.category]) ?_ (x_le.rf)
  have hc : c1 (lv_args 0 [.ref 30, .int (iZ c)]) := by simp [c1, lv_args, Value.category]
  have l0 : x_lk (lv_args 0 [.ref 30, .int (iZ c)]) 0 = some (.ref 30) := rfl
  have l1 : x_lk (lv_args 0 [.ref 30, .int (iZ c)]) 1 = some (.int (iZ c)) := rfl
  generalize lv_args 0 [.ref 30, .int (iZ c)] = lv at hc l0 l1
  refine Gx.fin 40 Cs.tt (fun K _ => ?_)
  unfold inC
  have hcs : (Ds.length : Int) ≤ 30 := by omega
  by_cases b1 : c < 0
  · rw [decide_eq_false (by omega)]
    simp (disch := first | (refine c1_id ?_; assumption) | (refine c1_st rfl ?_; repeat (first | assumption | refine c1_st rfl ?_)) | omega) [nx_l, nx_r, nx_n, x_st, x_push, x_bin, x_div, x_un, x_dup, x_pop, x_dup2, x_goto, x_ifeq, x_ifne, x_iflt, x_ifge, x_ifgt, x_ifle, x_iceq, x_icne, x_iclt, x_icge, x_icgt, x_icle, x_ifnull, x_ifnonnull, x_ldi, x_lda, x_sti, x_sta, x_iinc, x_gf, x_pf, x_ald, x_ast, x_aln, x_len, x_cl_, x_cv, x_cs, x_rc, x_r0, x_isT, x_oi, x_rv, x_ri, x_ra, Value.category, t134_0, t134_1, t134_4, t134_5, t134_6, t134_9, t134_12, t134_13, t134_16, t134_17, lk_s, hp_get, hp_set, uH_at, uH_ne, uH_upd, uH_swap, iZ_add, iZ_sub, iZ_mul, iZ_neg, iZ_lt, iZ_le, iZ_eq, iZ_div, iZ_of, ix_Z, gZ_map, gZ_mapI, gZ_map', le_0, le_s, sZ_map, sZ_len, bZ_0, bZ_inj, bZ_t, bZ_f, nr_i, nr_0, nr_1, nr_b, ft_i, ft_b, ft_0, ft_1, zl_0, zl_1, mF_len, mg_0, mg_1, mg_2, mg_3, mg_4, mg_5, mg_6, mg_7, mg_8, mg_9, mg_10, mg_11, mg_12, mg_13, mg_14, mg_15, mg_16, mg_17, mg_18, mg_19, mg_20, mg_21, mg_22, mg_23, mg_24, mg_25, mg_26, mg_27, mg_28, mg_29, mg_30, mg_31, mg_32, mg_33, mg_34, mg_35, mg_36, mg_37, mg_38, ms_0, ms_1, ms_2, ms_13, ms_14, ms_15, ms_16, ms_21, ms_22, ms_23, ms_24, ms_28, ms_36, ms_37, ms_38, st_at, st_ne, st_st, st_swap, l0, l1, b1, -List.filter_filter, -List.getElem?_map, -List.getD_eq_getElem?_getD]
  · by_cases b2 : (Ds.length : Int) ≤ c
    · rw [decide_eq_false (by omega)]
      simp (disch := first | (refine c1_id ?_; assumption) | (refine c1_st rfl ?_; repeat (first | assumption | refine c1_st rfl ?_)) | omega) [nx_l, nx_r, nx_n, x_st, x_push, x_bin, x_div, x_un, x_dup, x_pop, x_dup2, x_goto, x_ifeq, x_ifne, x_iflt, x_ifge, x_ifgt, x_ifle, x_iceq, x_icne, x_iclt, x_icge, x_icgt, x_icle, x_ifnull, x_ifnonnull, x_ldi, x_lda, x_sti, x_sta, x_iinc, x_gf, x_pf, x_ald, x_ast, x_aln, x_len, x_cl_, x_cv, x_cs, x_rc, x_r0, x_isT, x_oi, x_rv, x_ri, x_ra, Value.category, t134_0, t134_1, t134_4, t134_5, t134_6, t134_9, t134_12, t134_13, t134_16, t134_17, lk_s, hp_get, hp_set, uH_at, uH_ne, uH_upd, uH_swap, iZ_add, iZ_sub, iZ_mul, iZ_neg, iZ_lt, iZ_le, iZ_eq, iZ_div, iZ_of, ix_Z, gZ_map, gZ_mapI, gZ_map', le_0, le_s, sZ_map, sZ_len, bZ_0, bZ_inj, bZ_t, bZ_f, nr_i, nr_0, nr_1, nr_b, ft_i, ft_b, ft_0, ft_1, zl_0, zl_1, mF_len, mg_0, mg_1, mg_2, mg_3, mg_4, mg_5, mg_6, mg_7, mg_8, mg_9, mg_10, mg_11, mg_12, mg_13, mg_14, mg_15, mg_16, mg_17, mg_18, mg_19, mg_20, mg_21, mg_22, mg_23, mg_24, mg_25, mg_26, mg_27, mg_28, mg_29, mg_30, mg_31, mg_32, mg_33, mg_34, mg_35, mg_36, mg_37, mg_38, ms_0, ms_1, ms_2, ms_13, ms_14, ms_15, ms_16, ms_21, ms_22, ms_23, ms_24, ms_28, ms_36, ms_37, ms_38, st_at, st_ne, st_st, st_swap, l0, l1, hm, h3, b1, b2, -List.filter_filter, -List.getElem?_map, -List.getD_eq_getElem?_getD]
    · rw [decide_eq_true (by omega)]
      simp (disch := first | (refine c1_id ?_; assumption) | (refine c1_st rfl ?_; repeat (first | assumption | refine c1_st rfl ?_)) | omega) [nx_l, nx_r, nx_n, x_st, x_push, x_bin, x_div, x_un, x_dup, x_pop, x_dup2, x_goto, x_ifeq, x_ifne, x_iflt, x_ifge, x_ifgt, x_ifle, x_iceq, x_icne, x_iclt, x_icge, x_icgt, x_icle, x_ifnull, x_ifnonnull, x_ldi, x_lda, x_sti, x_sta, x_iinc, x_gf, x_pf, x_ald, x_ast, x_aln, x_len, x_cl_, x_cv, x_cs, x_rc, x_r0, x_isT, x_oi, x_rv, x_ri, x_ra, Value.category, t134_0, t134_1, t134_4, t134_5, t134_6, t134_9, t134_12, t134_13, t134_16, t134_17, lk_s, hp_get, hp_set, uH_at, uH_ne, uH_upd, uH_swap, iZ_add, iZ_sub, iZ_mul, iZ_neg, iZ_lt, iZ_le, iZ_eq, iZ_div, iZ_of, ix_Z, gZ_map, gZ_mapI, gZ_map', le_0, le_s, sZ_map, sZ_len, bZ_0, bZ_inj, bZ_t, bZ_f, nr_i, nr_0, nr_1, nr_b, ft_i, ft_b, ft_0, ft_1, zl_0, zl_1, mF_len, mg_0, mg_1, mg_2, mg_3, mg_4, mg_5, mg_6, mg_7, mg_8, mg_9, mg_10, mg_11, mg_12, mg_13, mg_14, mg_15, mg_16, mg_17, mg_18, mg_19, mg_20, mg_21, mg_22, mg_23, mg_24, mg_25, mg_26, mg_27, mg_28, mg_29, mg_30, mg_31, mg_32, mg_33, mg_34, mg_35, mg_36, mg_37, mg_38, ms_0, ms_1, ms_2, ms_13, ms_14, ms_15, ms_16, ms_21, ms_22, ms_23, ms_24, ms_28, ms_36, ms_37, ms_38, st_at, st_ne, st_st, st_swap, l0, l1, hm, h3, b1, b2, -List.filter_filter, -List.getElem?_map, -List.getD_eq_getElem?_getD]
theorem m132 (d : Nat) (hN : 53 ≤ N) (h : RS w m x Ds T U) : Xc (d + 1) 132 [.ref 30] (hp w N) (some (.int (iZ (m 1))), hp (uH w 27 (.inr (8, mF (st_ m 0 0)))) N) := by
  have hm := h.1.1
  have h3 := h.2.2.1
  have h8 := h.2.2.2.2.2.2.2.1
  refine Xc.of rfl (by simp [lg_sl, Value.category]) ?_ (h.1.le h.z0.1 (fun j hj => by rw [uH_ne (by omega)]; exact Nat.le_refl _))
  have hc : c1 (lv_args 0 [.ref 30]) := by simp [c1, lv_args, Value.category]
  have l0 : x_lk (lv_args 0 [.ref 30]) 0 = some (.ref 30) := rfl
  generalize lv_args 0 [.ref 30] = lv at hc l0
  refine Gx.fin 20 Cs.tt (fun K _ => ?_)
  simp (disch := first | (refine c1_id ?_; assumption) | (refine c1_st rfl ?_; repeat (first | assumption | refine c1_st rfl ?_)) | omega) [nx_l, nx_r, nx_n, x_st, x_push, x_bin, x_div, x_un, x_dup, x_pop, x_dup2, x_goto, x_ifeq, x_ifne, x_iflt, x_ifge, x_ifgt, x_ifle, x_iceq, x_icne, x_iclt, x_icge, x_icgt, x_icle, x_ifnull, x_ifnonnull, x_ldi, x_lda, x_sti, x_sta, x_iinc, x_gf, x_pf, x_ald, x_ast, x_aln, x_len, x_cl_, x_cv, x_cs, x_rc, x_r0, x_isT, x_oi, x_rv, x_ri, x_ra, Value.category, t132_0, t132_1, t132_2, t132_5, t132_6, t132_9, lk_s, hp_get, hp_set, uH_at, uH_ne, uH_upd, uH_swap, iZ_add, iZ_sub, iZ_mul, iZ_neg, iZ_lt, iZ_le, iZ_eq, iZ_div, iZ_of, ix_Z, gZ_map, gZ_mapI, gZ_map', le_0, le_s, sZ_map, sZ_len, bZ_0, bZ_inj, bZ_t, bZ_f, nr_i, nr_0, nr_1, nr_b, ft_i, ft_b, ft_0, ft_1, zl_0, zl_1, mF_len, mg_0, mg_1, mg_2, mg_3, mg_4, mg_5, mg_6, mg_7, mg_8, mg_9, mg_10, mg_11, mg_12, mg_13, mg_14, mg_15, mg_16, mg_17, mg_18, mg_19, mg_20, mg_21, mg_22, mg_23, mg_24, mg_25, mg_26, mg_27, mg_28, mg_29, mg_30, mg_31, mg_32, mg_33, mg_34, mg_35, mg_36, mg_37, mg_38, ms_0, ms_1, ms_2, ms_13, ms_14, ms_15, ms_16, ms_21, ms_22, ms_23, ms_24, ms_28, ms_36, ms_37, ms_38, st_at, st_ne, st_st, st_swap, l0, hm, h3, h8, -List.filter_filter, -List.getElem?_map, -List.getD_eq_getElem?_getD]
theorem m133 (d : Nat) (hN : 53 ≤ N) (h : RS w m x Ds T U) : Xc (d + 1) 133 [.ref 30] (hp w N) (some (.int (iZ ((Ds.length : Int)))), hp (uH w 27 (.inr (8, mF (st_ m 0 0)))) N) := by
  have hm := h.1.1
  have h3 := h.2.2.1
  have h8 := h.2.2.2.2.2.2.2.1
  refine Xc.of rfl (by simp [lg_sl, Value.category]) ?_ (h.1.le h.z0.1 (fun j hj => by rw [uH_ne (by omega)]; exact Nat.le_refl _))
  have hc : c1 (lv_args 0 [.ref 30]) := by simp [c1, lv_args, Value.category]
  have l0 : x_lk (lv_args 0 [.ref 30]) 0 = some (.ref 30) := rfl
  generalize lv_args 0 [.ref 30] = lv at hc l0
  refine Gx.fin 20 Cs.tt (fun K _ => ?_)
  simp (disch := first | (refine c1_id ?_; assumption) | (refine c1_st rfl ?_; repeat (first | assumption | refine c1_st rfl ?_)) | omega) [nx_l, nx_r, nx_n, x_st, x_push, x_bin, x_div, x_un, x_dup, x_pop, x_dup2, x_goto, x_ifeq, x_ifne, x_iflt, x_ifge, x_ifgt, x_ifle, x_iceq, x_icne, x_iclt, x_icge, x_icgt, x_icle, x_ifnull, x_ifnonnull, x_ldi, x_lda, x_sti, x_sta, x_iinc, x_gf, x_pf, x_ald, x_ast, x_aln, x_len, x_cl_, x_cv, x_cs, x_rc, x_r0, x_isT, x_oi, x_rv, x_ri, x_ra, Value.category, t133_0, t133_1, t133_2, t133_5, t133_6, t133_9, lk_s, hp_get, hp_set, uH_at, uH_ne, uH_upd, uH_swap, iZ_add, iZ_sub, iZ_mul, iZ_neg, iZ_lt, iZ_le, iZ_eq, iZ_div, iZ_of, ix_Z, gZ_map, gZ_mapI, gZ_map', le_0, le_s, sZ_map, sZ_len, bZ_0, bZ_inj, bZ_t, bZ_f, nr_i, nr_0, nr_1, nr_b, ft_i, ft_b, ft_0, ft_1, zl_0, zl_1, mF_len, mg_0, mg_1, mg_2, mg_3, mg_4, mg_5, mg_6, mg_7, mg_8, mg_9, mg_10, mg_11, mg_12, mg_13, mg_14, mg_15, mg_16, mg_17, mg_18, mg_19, mg_20, mg_21, mg_22, mg_23, mg_24, mg_25, mg_26, mg_27, mg_28, mg_29, mg_30, mg_31, mg_32, mg_33, mg_34, mg_35, mg_36, mg_37, mg_38, ms_0, ms_1, ms_2, ms_13, ms_14, ms_15, ms_16, ms_21, ms_22, ms_23, ms_24, ms_28, ms_36, ms_37, ms_38, st_at, st_ne, st_st, st_swap, l0, hm, h3, h8, -List.filter_filter, -List.getElem?_map, -List.getD_eq_getElem?_getD]
theorem m145 (d : Nat) (hN : 53 ≤ N) (h : RS w m x Ds T U) : Xc (d + 1) 145 [.ref 30] (hp w N) (some (.int (iZ ((T.length : Int)))), hp (uH w 27 (.inr (8, mF (st_ m 0 0)))) N) := by
  have hm := h.1.1
  have h3 := h.2.2.1
  have h8 := h.2.2.2.2.2.2.2.1
  refine Xc.of rfl (by simp [lg_sl, Value.category]) ?_ (h.1.le h.z0.1 (fun j hj => by rw [uH_ne (by omega)]; exact Nat.le_refl _))
  have hc : c1 (lv_args 0 [.ref 30]) := by simp [c1, lv_args, Value.category]
  have l0 : x_lk (lv_args 0 [.ref 30]) 0 = some (.ref 30) := rfl
  generalize lv_args 0 [.ref 30] = lv at hc l0
  refine Gx.fin 20 Cs.tt (fun K _ => ?_)
  simp (disch := first | (refine c1_id ?_; assumption) | (refine c1_st rfl ?_; repeat (first | assumption | refine c1_st rfl ?_)) | omega) [nx_l, nx_r, nx_n, x_st, x_push, x_bin, x_div, x_un, x_dup, x_pop, x_dup2, x_goto, x_ifeq, x_ifne, x_iflt, x_ifge, x_ifgt, x_ifle, x_iceq, x_icne, x_iclt, x_icge, x_icgt, x_icle, x_ifnull, x_ifnonnull, x_ldi, x_lda, x_sti, x_sta, x_iinc, x_gf, x_pf, x_ald, x_ast, x_aln, x_len, x_cl_, x_cv, x_cs, x_rc, x_r0, x_isT, x_oi, x_rv, x_ri, x_ra, Value.category, t145_0, t145_1, t145_2, t145_5, t145_6, t145_9, lk_s, hp_get, hp_set, uH_at, uH_ne, uH_upd, uH_swap, iZ_add, iZ_sub, iZ_mul, iZ_neg, iZ_lt, iZ_le, iZ_eq, iZ_div, iZ_of, ix_Z, gZ_map, gZ_mapI, gZ_map', le_0, le_s, sZ_map, sZ_len, bZ_0, bZ_inj, bZ_t, bZ_f, nr_i, nr_0, nr_1, nr_b, ft_i, ft_b, ft_0, ft_1, zl_0, zl_1, mF_len, mg_0, mg_1, mg_2, mg_3, mg_4, mg_5, mg_6, mg_7, mg_8, mg_9, mg_10, mg_11, mg_12, mg_13, mg_14, mg_15, mg_16, mg_17, mg_18, mg_19, mg_20, mg_21, mg_22, mg_23, mg_24, mg_25, mg_26, mg_27, mg_28, mg_29, mg_30, mg_31, mg_32, mg_33, mg_34, mg_35, mg_36, mg_37, mg_38, ms_0, ms_1, ms_2, ms_13, ms_14, ms_15, ms_16, ms_21, ms_22, ms_23, ms_24, ms_28, ms_36, ms_37, ms_38, st_at, st_ne, st_st, st_swap, l0, hm, h3, h8, -List.filter_filter, -List.getElem?_map, -List.getD_eq_getElem?_getD]
theorem m135 (d : Nat) (hN : 53 ≤ N) (h : RS w m x Ds T U) (c : Int) (cr : -2147483648 ≤ c ∧ c < 2147483648) : Xc (d + 2) 135 [.ref 30, .int (iZ c)] (hp w N) (some (.int (iZ (if inC Ds c = true then ((cl1 Ds c).length : Int) else -1))), hp (uH w 27 (.inr (8, mF (st_ m 0 0)))) N) := by
  have hm := h.1.1
  have X := m134 d hN h.z0 c cr
  refine Xc.of rfl (by simp [lg_sl, Value.category]) ?_ (h.1.le h.z0.1 (fun j hj => by rw [uH_ne (by omega)]; exact Nat.le_refl _))
  have hc : c1 (lv_args 0 [.ref 30, .int (iZ c)]) := by simp [c1, lv_args, Value.category]
  have l0 : x_lk (lv_args 0 [.ref 30, .int (iZ c)]) 0 = some (.ref 30) := rfl
  have l1 : x_lk (lv_args 0 [.ref 30, .int (iZ c)]) 1 = some (.int (iZ c)) := rfl
  generalize lv_args 0 [.ref 30, .int (iZ c)] = lv at hc l0 l1
  have hz := h.z0
  have hm1 := h.z0.1.1
  have h30 : (uH w 27 (.inr (8, mF (st_ m 0 0)))) 30 = cI 0 (x 30) := (hz.1.2 30 (by decide) (by decide)).1
  have n30 : (x 30).length = 30 := (hz.1.2 30 (by decide) (by decide)).2
  have h29 : (uH w 27 (.inr (8, mF (st_ m 0 0)))) 29 = cI 0 (x 29) := (hz.1.2 29 (by decide) (by decide)).1
  have n29 : (x 29).length = 210 := (hz.1.2 29 (by decide) (by decide)).2
  have h31 : (uH w 27 (.inr (8, mF (st_ m 0 0)))) 31 = cI 0 (x 31) := (hz.1.2 31 (by decide) (by decide)).1
  have n31 : (x 31).length = 30 := (hz.1.2 31 (by decide) (by decide)).2
  have g5 : Gx q_k135 (d + 1) 5 (lv, [], hp (uH w 27 (.inr (8, mF (st_ m 0 0)))) N) (some (.int (iZ (if inC Ds c = true then ((cl1 Ds c).length : Int) else -1))), hp (uH w 27 (.inr (8, mF (st_ m 0 0)))) N) := by
    obtain ⟨w1, hw1⟩ : ∃ w1, w1 = uH w 27 (.inr (8, mF (st_ m 0 0))) := ⟨_, rfl⟩
    rw [← hw1] at X hm1 h30 h29 h31 ⊢
    refine Gx.fin 40 X (fun K mm => ?_)
    cases hin : inC Ds c with
    | false =>
      rw [hin, bZ_f] at mm
      rw [if_neg (by decide)]
      simp (disch := first | (refine c1_id ?_; assumption) | (refine c1_st rfl ?_; repeat (first | assumption | refine c1_st rfl ?_)) | omega) [nx_l, nx_r, nx_n, x_st, x_push, x_bin, x_div, x_un, x_dup, x_pop, x_dup2, x_goto, x_ifeq, x_ifne, x_iflt, x_ifge, x_ifgt, x_ifle, x_iceq, x_icne, x_iclt, x_icge, x_icgt, x_icle, x_ifnull, x_ifnonnull, x_ldi, x_lda, x_sti, x_sta, x_iinc, x_gf, x_pf, x_ald, x_ast, x_aln, x_len, x_cl_, x_cv, x_cs, x_rc, x_r0, x_isT, x_oi, x_rv, x_ri, x_ra, Value.category, t135_0, t135_1, t135_2, t135_5, t135_6, t135_7, t135_10, t135_13, t135_14, t135_17, t135_18, t135_19, t135_22, t135_23, lk_s, hp_get, hp_set, uH_at, uH_ne, uH_upd, uH_swap, iZ_add, iZ_sub, iZ_mul, iZ_neg, iZ_lt, iZ_le, iZ_eq, iZ_div, iZ_of, ix_Z, gZ_map, gZ_mapI, gZ_map', le_0, le_s, sZ_map, sZ_len, bZ_0, bZ_inj, bZ_t, bZ_f, nr_i, nr_0, nr_1, nr_b, ft_i, ft_b, ft_0, ft_1, zl_0, zl_1, mF_len, mg_0, mg_1, mg_2, mg_3, mg_4, mg_5, mg_6, mg_7, mg_8, mg_9, mg_10, mg_11, mg_12, mg_13, mg_14, mg_15, mg_16, mg_17, mg_18, mg_19, mg_20, mg_21, mg_22, mg_23, mg_24, mg_25, mg_26, mg_27, mg_28, mg_29, mg_30, mg_31, mg_32, mg_33, mg_34, mg_35, mg_36, mg_37, mg_38, ms_0, ms_1, ms_2, ms_13, ms_14, ms_15, ms_16, ms_21, ms_22, ms_23, ms_24, ms_28, ms_36, ms_37, ms_38, st_at, st_ne, st_st, st_swap, l0, l1, hm1, mm, -List.filter_filter, -List.getElem?_map, -List.getD_eq_getElem?_getD]
    | true =>
      rw [hin, bZ_t] at mm
      rw [if_pos rfl]
      have hc2 : 0 ≤ c ∧ c < Ds.length := by
        unfold inC at hin
        simpa using hin
      have h4 := h.2.2.2.1
      have hD := h.rd hc2.1 hc2.2
      have c0 := hc2.1
      have c30 : c < 30 := by omega
      obtain ⟨⟨a1, a2, a3, a4, a5, a6, a7, a8, a9⟩, gD, _⟩ := hD
      have e7 : gZ (x 30) c = ((cl1 Ds c).length : Int) := a7
      have e8 : gZ (x 29) (7 * c + ((cl1 Ds c).length : Int)) = ((flt (cl1 Ds c)).length : Int) := by
        have := a8 _ (Nat.le_refl _)
        rw [stC_all] at this
        exact this
      have e9 := (h.rec hc2.1 hc2.2).1
      have l6 : ((cl1 Ds c).length : Int) ≤ 6 := by
        have : (cl1 Ds c).length ≤ 6 := a6
        omega
      have l0' : (0 : Int) ≤ ((cl1 Ds c).length : Int) := by omega
      simp (disch := first | (refine c1_id ?_; assumption) | (refine c1_st rfl ?_; repeat (first | assumption | refine c1_st rfl ?_)) | omega) [nx_l, nx_r, nx_n, x_st, x_push, x_bin, x_div, x_un, x_dup, x_pop, x_dup2, x_goto, x_ifeq, x_ifne, x_iflt, x_ifge, x_ifgt, x_ifle, x_iceq, x_icne, x_iclt, x_icge, x_icgt, x_icle, x_ifnull, x_ifnonnull, x_ldi, x_lda, x_sti, x_sta, x_iinc, x_gf, x_pf, x_ald, x_ast, x_aln, x_len, x_cl_, x_cv, x_cs, x_rc, x_r0, x_isT, x_oi, x_rv, x_ri, x_ra, Value.category, t135_0, t135_1, t135_2, t135_5, t135_6, t135_7, t135_10, t135_13, t135_14, t135_17, t135_18, t135_19, t135_22, t135_23, lk_s, hp_get, hp_set, uH_at, uH_ne, uH_upd, uH_swap, iZ_add, iZ_sub, iZ_mul, iZ_neg, iZ_lt, iZ_le, iZ_eq, iZ_div, iZ_of, ix_Z, gZ_map, gZ_mapI, gZ_map', le_0, le_s, sZ_map, sZ_len, bZ_0, bZ_inj, bZ_t, bZ_f, nr_i, nr_0, nr_1, nr_b, ft_i, ft_b, ft_0, ft_1, zl_0, zl_1, mF_len, mg_0, mg_1, mg_2, mg_3, mg_4, mg_5, mg_6, mg_7, mg_8, mg_9, mg_10, mg_11, mg_12, mg_13, mg_14, mg_15, mg_16, mg_17, mg_18, mg_19, mg_20, mg_21, mg_22, mg_23, mg_24, mg_25, mg_26, mg_27, mg_28, mg_29, mg_30, mg_31, mg_32, mg_33, mg_34, mg_35, mg_36, mg_37, mg_38, ms_0, ms_1, ms_2, ms_13, ms_14, ms_15, ms_16, ms_21, ms_22, ms_23, ms_24, ms_28, ms_36, ms_37, ms_38, st_at, st_ne, st_st, st_swap, l0, l1, hm1, h30, h29, h31, e7, e8, e9, mm, -List.filter_filter, -List.getElem?_map, -List.getD_eq_getElem?_getD]
  refine Gx.run 20 Cs.tt (fun K _ => ?_) g5
  simp (disch := first | (refine c1_id ?_; assumption) | (refine c1_st rfl ?_; repeat (first | assumption | refine c1_st rfl ?_)) | omega) [nx_l, nx_r, nx_n, x_st, x_push, x_bin, x_div, x_un, x_dup, x_pop, x_dup2, x_goto, x_ifeq, x_ifne, x_iflt, x_ifge, x_ifgt, x_ifle, x_iceq, x_icne, x_iclt, x_icge, x_icgt, x_icle, x_ifnull, x_ifnonnull, x_ldi, x_lda, x_sti, x_sta, x_iinc, x_gf, x_pf, x_ald, x_ast, x_aln, x_len, x_cl_, x_cv, x_cs, x_rc, x_r0, x_isT, x_oi, x_rv, x_ri, x_ra, Value.category, t135_0, t135_1, t135_2, t135_5, t135_6, t135_7, t135_10, t135_13, t135_14, t135_17, t135_18, t135_19, t135_22, t135_23, lk_s, hp_get, hp_set, uH_at, uH_ne, uH_upd, uH_swap, iZ_add, iZ_sub, iZ_mul, iZ_neg, iZ_lt, iZ_le, iZ_eq, iZ_div, iZ_of, ix_Z, gZ_map, gZ_mapI, gZ_map', le_0, le_s, sZ_map, sZ_len, bZ_0, bZ_inj, bZ_t, bZ_f, nr_i, nr_0, nr_1, nr_b, ft_i, ft_b, ft_0, ft_1, zl_0, zl_1, mF_len, mg_0, mg_1, mg_2, mg_3, mg_4, mg_5, mg_6, mg_7, mg_8, mg_9, mg_10, mg_11, mg_12, mg_13, mg_14, mg_15, mg_16, mg_17, mg_18, mg_19, mg_20, mg_21, mg_22, mg_23, mg_24, mg_25, mg_26, mg_27, mg_28, mg_29, mg_30, mg_31, mg_32, mg_33, mg_34, mg_35, mg_36, mg_37, mg_38, ms_0, ms_1, ms_2, ms_13, ms_14, ms_15, ms_16, ms_21, ms_22, ms_23, ms_24, ms_28, ms_36, ms_37, ms_38, st_at, st_ne, st_st, st_swap, l0, hm, -List.filter_filter, -List.getElem?_map, -List.getD_eq_getElem?_getD]
theorem m136 (d : Nat) (hN : 53 ≤ N) (h : RS w m x Ds T U) (c : Int) (cr : -2147483648 ≤ c ∧ c < 2147483648) : Xc (d + 2) 136 [.ref 30, .int (iZ c)] (hp w N) (some (.int (iZ (if inC Ds c = true then ((flt (cl1 Ds c)).length : Int) else -1))), hp (uH w 27 (.inr (8, mF (st_ m 0 0)))) N) := by
  have hm := h.1.1
  have X := m134 d hN h.z0 c cr
  refine Xc.of rfl (by simp [lg_sl, Value.category]) ?_ (h.1.le h.z0.1 (fun j hj => by rw [uH_ne (by omega)]; exact Nat.le_refl _))
  have hc : c1 (lv_args 0 [.ref 30, .int (iZ c)]) := by simp [c1, lv_args, Value.category]
  have l0 : x_lk (lv_args 0 [.ref 30, .int (iZ c)]) 0 = some (.ref 30) := rfl
  have l1 : x_lk (lv_args 0 [.ref 30, .int (iZ c)]) 1 = some (.int (iZ c)) := rfl
  generalize lv_args 0 [.ref 30, .int (iZ c)] = lv at hc l0 l1
  have hz := h.z0
  have hm1 := h.z0.1.1
  have h30 : (uH w 27 (.inr (8, mF (st_ m 0 0)))) 30 = cI 0 (x 30) := (hz.1.2 30 (by decide) (by decide)).1
  have n30 : (x 30).length = 30 := (hz.1.2 30 (by decide) (by decide)).2
  have h29 : (uH w 27 (.inr (8, mF (st_ m 0 0)))) 29 = cI 0 (x 29) := (hz.1.2 29 (by decide) (by decide)).1
  have n29 : (x 29).length = 210 := (hz.1.2 29 (by decide) (by decide)).2
  have h31 : (uH w 27 (.inr (8, mF (st_ m 0 0)))) 31 = cI 0 (x 31) := (hz.1.2 31 (by decide) (by decide)).1
  have n31 : (x 31).length = 30 := (hz.1.2 31 (by decide) (by decide)).2
  have g5 : Gx q_k136 (d + 1) 5 (lv, [], hp (uH w 27 (.inr (8, mF (st_ m 0 0)))) N) (some (.int (iZ (if inC Ds c = true then ((flt (cl1 Ds c)).length : Int) else -1))), hp (uH w 27 (.inr (8, mF (st_ m 0 0)))) N) := by
    obtain ⟨w1, hw1⟩ : ∃ w1, w1 = uH w 27 (.inr (8, mF (st_ m 0 0))) := ⟨_, rfl⟩
    rw [← hw1] at X hm1 h30 h29 h31 ⊢
    refine Gx.fin 40 X (fun K mm => ?_)
    cases hin : inC Ds c with
    | false =>
      rw [hin, bZ_f] at mm
      rw [if_neg (by decide)]
      simp (disch := first | (refine c1_id ?_; assumption) | (refine c1_st rfl ?_; repeat (first | assumption | refine c1_st rfl ?_)) | omega) [nx_l, nx_r, nx_n, x_st, x_push, x_bin, x_div, x_un, x_dup, x_pop, x_dup2, x_goto, x_ifeq, x_ifne, x_iflt, x_ifge, x_ifgt, x_ifle, x_iceq, x_icne, x_iclt, x_icge, x_icgt, x_icle, x_ifnull, x_ifnonnull, x_ldi, x_lda, x_sti, x_sta, x_iinc, x_gf, x_pf, x_ald, x_ast, x_aln, x_len, x_cl_, x_cv, x_cs, x_rc, x_r0, x_isT, x_oi, x_rv, x_ri, x_ra, Value.category, t136_0, t136_1, t136_2, t136_5, t136_6, t136_7, t136_10, t136_13, t136_14, t136_17, t136_19, t136_20, t136_21, t136_22, t136_25, t136_26, t136_27, t136_28, t136_29, t136_32, t136_33, lk_s, hp_get, hp_set, uH_at, uH_ne, uH_upd, uH_swap, iZ_add, iZ_sub, iZ_mul, iZ_neg, iZ_lt, iZ_le, iZ_eq, iZ_div, iZ_of, ix_Z, gZ_map, gZ_mapI, gZ_map', le_0, le_s, sZ_map, sZ_len, bZ_0, bZ_inj, bZ_t, bZ_f, nr_i, nr_0, nr_1, nr_b, ft_i, ft_b, ft_0, ft_1, zl_0, zl_1, zl_7, mF_len, mg_0, mg_1, mg_2, mg_3, mg_4, mg_5, mg_6, mg_7, mg_8, mg_9, mg_10, mg_11, mg_12, mg_13, mg_14, mg_15, mg_16, mg_17, mg_18, mg_19, mg_20, mg_21, mg_22, mg_23, mg_24, mg_25, mg_26, mg_27, mg_28, mg_29, mg_30, mg_31, mg_32, mg_33, mg_34, mg_35, mg_36, mg_37, mg_38, ms_0, ms_1, ms_2, ms_13, ms_14, ms_15, ms_16, ms_21, ms_22, ms_23, ms_24, ms_28, ms_36, ms_37, ms_38, st_at, st_ne, st_st, st_swap, l0, l1, hm1, mm, -List.filter_filter, -List.getElem?_map, -List.getD_eq_getElem?_getD]
    | true =>
      rw [hin, bZ_t] at mm
      rw [if_pos rfl]
      have hc2 : 0 ≤ c ∧ c < Ds.length := by
        unfold inC at hin
        simpa using hin
      have h4 := h.2.2.2.1
      have hD := h.rd hc2.1 hc2.2
      have c0 := hc2.1
      have c30 : c < 30 := by omega
      obtain ⟨⟨a1, a2, a3, a4, a5, a6, a7, a8, a9⟩, gD, _⟩ := hD
      have e7 : gZ (x 30) c = ((cl1 Ds c).length : Int) := a7
      have e8 : gZ (x 29) (7 * c + ((cl1 Ds c).length : Int)) = ((flt (cl1 Ds c)).length : Int) := by
        have := a8 _ (Nat.le_refl _)
        rw [stC_all] at this
        exact this
      have e9 := (h.rec hc2.1 hc2.2).1
      have l6 : ((cl1 Ds c).length : Int) ≤ 6 := by
        have : (cl1 Ds c).length ≤ 6 := a6
        omega
      have l0' : (0 : Int) ≤ ((cl1 Ds c).length : Int) := by omega
      simp (disch := first | (refine c1_id ?_; assumption) | (refine c1_st rfl ?_; repeat (first | assumption | refine c1_st rfl ?_)) | omega) [nx_l, nx_r, nx_n, x_st, x_push, x_bin, x_div, x_un, x_dup, x_pop, x_dup2, x_goto, x_ifeq, x_ifne, x_iflt, x_ifge, x_ifgt, x_ifle, x_iceq, x_icne, x_iclt, x_icge, x_icgt, x_icle, x_ifnull, x_ifnonnull, x_ldi, x_lda, x_sti, x_sta, x_iinc, x_gf, x_pf, x_ald, x_ast, x_aln, x_len, x_cl_, x_cv, x_cs, x_rc, x_r0, x_isT, x_oi, x_rv, x_ri, x_ra, Value.category, t136_0, t136_1, t136_2, t136_5, t136_6, t136_7, t136_10, t136_13, t136_14, t136_17, t136_19, t136_20, t136_21, t136_22, t136_25, t136_26, t136_27, t136_28, t136_29, t136_32, t136_33, lk_s, hp_get, hp_set, uH_at, uH_ne, uH_upd, uH_swap, iZ_add, iZ_sub, iZ_mul, iZ_neg, iZ_lt, iZ_le, iZ_eq, iZ_div, iZ_of, ix_Z, gZ_map, gZ_mapI, gZ_map', le_0, le_s, sZ_map, sZ_len, bZ_0, bZ_inj, bZ_t, bZ_f, nr_i, nr_0, nr_1, nr_b, ft_i, ft_b, ft_0, ft_1, zl_0, zl_1, zl_7, mF_len, mg_0, mg_1, mg_2, mg_3, mg_4, mg_5, mg_6, mg_7, mg_8, mg_9, mg_10, mg_11, mg_12, mg_13, mg_14, mg_15, mg_16, mg_17, mg_18, mg_19, mg_20, mg_21, mg_22, mg_23, mg_24, mg_25, mg_26, mg_27, mg_28, mg_29, mg_30, mg_31, mg_32, mg_33, mg_34, mg_35, mg_36, mg_37, mg_38, ms_0, ms_1, ms_2, ms_13, ms_14, ms_15, ms_16, ms_21, ms_22, ms_23, ms_24, ms_28, ms_36, ms_37, ms_38, st_at, st_ne, st_st, st_swap, l0, l1, hm1, h30, h29, h31, e7, e8, e9, mm, -List.filter_filter, -List.getElem?_map, -List.getD_eq_getElem?_getD]
  refine Gx.run 20 Cs.tt (fun K _ => ?_) g5
  simp (disch := first | (refine c1_id ?_; assumption) | (refine c1_st rfl ?_; repeat (first | assumption | refine c1_st rfl ?_)) | omega) [nx_l, nx_r, nx_n, x_st, x_push, x_bin, x_div, x_un, x_dup, x_pop, x_dup2, x_goto, x_ifeq, x_ifne, x_iflt, x_ifge, x_ifgt, x_ifle, x_iceq, x_icne, x_iclt, x_icge, x_icgt, x_icle, x_ifnull, x_ifnonnull, x_ldi, x_lda, x_sti, x_sta, x_iinc, x_gf, x_pf, x_ald, x_ast, x_aln, x_len, x_cl_, x_cv, x_cs, x_rc, x_r0, x_isT, x_oi, x_rv, x_ri, x_ra, Value.category, t136_0, t136_1, t136_2, t136_5, t136_6, t136_7, t136_10, t136_13, t136_14, t136_17, t136_19, t136_20, t136_21, t136_22, t136_25, t136_26, t136_27, t136_28, t136_29, t136_32, t136_33, lk_s, hp_get, hp_set, uH_at, uH_ne, uH_upd, uH_swap, iZ_add, iZ_sub, iZ_mul, iZ_neg, iZ_lt, iZ_le, iZ_eq, iZ_div, iZ_of, ix_Z, gZ_map, gZ_mapI, gZ_map', le_0, le_s, sZ_map, sZ_len, bZ_0, bZ_inj, bZ_t, bZ_f, nr_i, nr_0, nr_1, nr_b, ft_i, ft_b, ft_0, ft_1, zl_0, zl_1, zl_7, mF_len, mg_0, mg_1, mg_2, mg_3, mg_4, mg_5, mg_6, mg_7, mg_8, mg_9, mg_10, mg_11, mg_12, mg_13, mg_14, mg_15, mg_16, mg_17, mg_18, mg_19, mg_20, mg_21, mg_22, mg_23, mg_24, mg_25, mg_26, mg_27, mg_28, mg_29, mg_30, mg_31, mg_32, mg_33, mg_34, mg_35, mg_36, mg_37, mg_38, ms_0, ms_1, ms_2, ms_13, ms_14, ms_15, ms_16, ms_21, ms_22, ms_23, ms_24, ms_28, ms_36, ms_37, ms_38, st_at, st_ne, st_st, st_swap, l0, hm, -List.filter_filter, -List.getElem?_map, -List.getD_eq_getElem?_getD]
theorem m141 (d : Nat) (hN : 53 ≤ N) (h : RS w m x Ds T U) (c : Int) (cr : -2147483648 ≤ c ∧ c < 2147483648) : Xc (d + 2) 141 [.ref 30, .int (iZ c)] (hp w N) (some (.int (iZ (if inC Ds c = true then (cl Ds c.toNat).2.2.1 else -1))), hp (uH w 27 (.inr (8, mF (st_ m 0 0)))) N) := by
  have hm := h.1.1
  have X := m134 d hN h.z0 c cr
  refine Xc.of rfl (by simp [lg_sl, Value.category]) ?_ (h.1.le h.z0.1 (fun j hj => by rw [uH_ne (by omega)]; exact Nat.le_refl _))
  have hc : c1 (lv_args 0 [.ref 30, .int (iZ c)]) := by simp [c1, lv_args, Value.category]
  have l0 : x_lk (lv_args 0 [.ref 30, .int (iZ c)]) 0 = some (.ref 30) := rfl
  have l1 : x_lk (lv_args 0 [.ref 30, .int (iZ c)]) 1 = some (.int (iZ c)) := rfl
  generalize lv_args 0 [.ref 30, .int (iZ c)] = lv at hc l0 l1
  have hz := h.z0
  have hm1 := h.z0.1.1
  have h30 : (uH w 27 (.inr (8, mF (st_ m 0 0)))) 30 = cI 0 (x 30) := (hz.1.2 30 (by decide) (by decide)).1
  have n30 : (x 30).length = 30 := (hz.1.2 30 (by decide) (by decide)).2
  have h29 : (uH w 27 (.inr (8, mF (st_ m 0 0)))) 29 = cI 0 (x 29) := (hz.1.2 29 (by decide) (by decide)).1
  have n29 : (x 29).length = 210 := (hz.1.2 29 (by decide) (by decide)).2
  have h31 : (uH w 27 (.inr (8, mF (st_ m 0 0)))) 31 = cI 0 (x 31) := (hz.1.2 31 (by decide) (by decide)).1
  have n31 : (x 31).length = 30 := (hz.1.2 31 (by decide) (by decide)).2
  have g5 : Gx q_k141 (d + 1) 5 (lv, [], hp (uH w 27 (.inr (8, mF (st_ m 0 0)))) N) (some (.int (iZ (if inC Ds c = true then (cl Ds c.toNat).2.2.1 else -1))), hp (uH w 27 (.inr (8, mF (st_ m 0 0)))) N) := by
    obtain ⟨w1, hw1⟩ : ∃ w1, w1 = uH w 27 (.inr (8, mF (st_ m 0 0))) := ⟨_, rfl⟩
    rw [← hw1] at X hm1 h30 h29 h31 ⊢
    refine Gx.fin 40 X (fun K mm => ?_)
    cases hin : inC Ds c with
    | false =>
      rw [hin, bZ_f] at mm
      rw [if_neg (by decide)]
      simp (disch := first | (refine c1_id ?_; assumption) | (refine c1_st rfl ?_; repeat (first | assumption | refine c1_st rfl ?_)) | omega) [nx_l, nx_r, nx_n, x_st, x_push, x_bin, x_div, x_un, x_dup, x_pop, x_dup2, x_goto, x_ifeq, x_ifne, x_iflt, x_ifge, x_ifgt, x_ifle, x_iceq, x_icne, x_iclt, x_icge, x_icgt, x_icle, x_ifnull, x_ifnonnull, x_ldi, x_lda, x_sti, x_sta, x_iinc, x_gf, x_pf, x_ald, x_ast, x_aln, x_len, x_cl_, x_cv, x_cs, x_rc, x_r0, x_isT, x_oi, x_rv, x_ri, x_ra, Value.category, t141_0, t141_1, t141_2, t141_5, t141_6, t141_7, t141_10, t141_13, t141_14, t141_17, t141_18, t141_19, t141_22, t141_23, lk_s, hp_get, hp_set, uH_at, uH_ne, uH_upd, uH_swap, iZ_add, iZ_sub, iZ_mul, iZ_neg, iZ_lt, iZ_le, iZ_eq, iZ_div, iZ_of, ix_Z, gZ_map, gZ_mapI, gZ_map', le_0, le_s, sZ_map, sZ_len, bZ_0, bZ_inj, bZ_t, bZ_f, nr_i, nr_0, nr_1, nr_b, ft_i, ft_b, ft_0, ft_1, zl_0, zl_1, mF_len, mg_0, mg_1, mg_2, mg_3, mg_4, mg_5, mg_6, mg_7, mg_8, mg_9, mg_10, mg_11, mg_12, mg_13, mg_14, mg_15, mg_16, mg_17, mg_18, mg_19, mg_20, mg_21, mg_22, mg_23, mg_24, mg_25, mg_26, mg_27, mg_28, mg_29, mg_30, mg_31, mg_32, mg_33, mg_34, mg_35, mg_36, mg_37, mg_38, ms_0, ms_1, ms_2, ms_13, ms_14, ms_15, ms_16, ms_21, ms_22, ms_23, ms_24, ms_28, ms_36, ms_37, ms_38, st_at, st_ne, st_st, st_swap, l0, l1, hm1, mm, -List.filter_filter, -List.getElem?_map, -List.getD_eq_getElem?_getD]
    | true =>
      rw [hin, bZ_t] at mm
      rw [if_pos rfl]
      have hc2 : 0 ≤ c ∧ c < Ds.length := by
        unfold inC at hin
        simpa using hin
      have h4 := h.2.2.2.1
      have hD := h.rd hc2.1 hc2.2
      have c0 := hc2.1
      have c30 : c < 30 := by omega
      obtain ⟨⟨a1, a2, a3, a4, a5, a6, a7, a8, a9⟩, gD, _⟩ := hD
      have e7 : gZ (x 30) c = ((cl1 Ds c).length : Int) := a7
      have e8 : gZ (x 29) (7 * c + ((cl1 Ds c).length : Int)) = ((flt (cl1 Ds c)).length : Int) := by
        have := a8 _ (Nat.le_refl _)
        rw [stC_all] at this
        exact this
      have e9 := (h.rec hc2.1 hc2.2).1
      have l6 : ((cl1 Ds c).length : Int) ≤ 6 := by
        have : (cl1 Ds c).length ≤ 6 := a6
        omega
      have l0' : (0 : Int) ≤ ((cl1 Ds c).length : Int) := by omega
      simp (disch := first | (refine c1_id ?_; assumption) | (refine c1_st rfl ?_; repeat (first | assumption | refine c1_st rfl ?_)) | omega) [nx_l, nx_r, nx_n, x_st, x_push, x_bin, x_div, x_un, x_dup, x_pop, x_dup2, x_goto, x_ifeq, x_ifne, x_iflt, x_ifge, x_ifgt, x_ifle, x_iceq, x_icne, x_iclt, x_icge, x_icgt, x_icle, x_ifnull, x_ifnonnull, x_ldi, x_lda, x_sti, x_sta, x_iinc, x_gf, x_pf, x_ald, x_ast, x_aln, x_len, x_cl_, x_cv, x_cs, x_rc, x_r0, x_isT, x_oi, x_rv, x_ri, x_ra, Value.category, t141_0, t141_1, t141_2, t141_5, t141_6, t141_7, t141_10, t141_13, t141_14, t141_17, t141_18, t141_19, t141_22, t141_23, lk_s, hp_get, hp_set, uH_at, uH_ne, uH_upd, uH_swap, iZ_add, iZ_sub, iZ_mul, iZ_neg, iZ_lt, iZ_le, iZ_eq, iZ_div, iZ_of, ix_Z, gZ_map, gZ_mapI, gZ_map', le_0, le_s, sZ_map, sZ_len, bZ_0, bZ_inj, bZ_t, bZ_f, nr_i, nr_0, nr_1, nr_b, ft_i, ft_b, ft_0, ft_1, zl_0, zl_1, mF_len, mg_0, mg_1, mg_2, mg_3, mg_4, mg_5, mg_6, mg_7, mg_8, mg_9, mg_10, mg_11, mg_12, mg_13, mg_14, mg_15, mg_16, mg_17, mg_18, mg_19, mg_20, mg_21, mg_22, mg_23, mg_24, mg_25, mg_26, mg_27, mg_28, mg_29, mg_30, mg_31, mg_32, mg_33, mg_34, mg_35, mg_36, mg_37, mg_38, ms_0, ms_1, ms_2, ms_13, ms_14, ms_15, ms_16, ms_21, ms_22, ms_23, ms_24, ms_28, ms_36, ms_37, ms_38, st_at, st_ne, st_st, st_swap, l0, l1, hm1, h30, h29, h31, e7, e8, e9, mm, -List.filter_filter, -List.getElem?_map, -List.getD_eq_getElem?_getD]
  refine Gx.run 20 Cs.tt (fun K _ => ?_) g5
  simp (disch := first | (refine c1_id ?_; assumption) | (refine c1_st rfl ?_; repeat (first | assumption | refine c1_st rfl ?_)) | omega) [nx_l, nx_r, nx_n, x_st, x_push, x_bin, x_div, x_un, x_dup, x_pop, x_dup2, x_goto, x_ifeq, x_ifne, x_iflt, x_ifge, x_ifgt, x_ifle, x_iceq, x_icne, x_iclt, x_icge, x_icgt, x_icle, x_ifnull, x_ifnonnull, x_ldi, x_lda, x_sti, x_sta, x_iinc, x_gf, x_pf, x_ald, x_ast, x_aln, x_len, x_cl_, x_cv, x_cs, x_rc, x_r0, x_isT, x_oi, x_rv, x_ri, x_ra, Value.category, t141_0, t141_1, t141_2, t141_5, t141_6, t141_7, t141_10, t141_13, t141_14, t141_17, t141_18, t141_19, t141_22, t141_23, lk_s, hp_get, hp_set, uH_at, uH_ne, uH_upd, uH_swap, iZ_add, iZ_sub, iZ_mul, iZ_neg, iZ_lt, iZ_le, iZ_eq, iZ_div, iZ_of, ix_Z, gZ_map, gZ_mapI, gZ_map', le_0, le_s, sZ_map, sZ_len, bZ_0, bZ_inj, bZ_t, bZ_f, nr_i, nr_0, nr_1, nr_b, ft_i, ft_b, ft_0, ft_1, zl_0, zl_1, mF_len, mg_0, mg_1, mg_2, mg_3, mg_4, mg_5, mg_6, mg_7, mg_8, mg_9, mg_10, mg_11, mg_12, mg_13, mg_14, mg_15, mg_16, mg_17, mg_18, mg_19, mg_20, mg_21, mg_22, mg_23, mg_24, mg_25, mg_26, mg_27, mg_28, mg_29, mg_30, mg_31, mg_32, mg_33, mg_34, mg_35, mg_36, mg_37, mg_38, ms_0, ms_1, ms_2, ms_13, ms_14, ms_15, ms_16, ms_21, ms_22, ms_23, ms_24, ms_28, ms_36, ms_37, ms_38, st_at, st_ne, st_st, st_swap, l0, hm, -List.filter_filter, -List.getElem?_map, -List.getD_eq_getElem?_getD]
def bt (a b : Int) : Bool := decide ((iZ a >>> (iZ b &&& 31)) &&& iZ 1 = iZ 1)
theorem m142 (d : Nat) (hN : 53 ≤ N) (h : RS w m x Ds T U) (c b : Int) (cr : -2147483648 ≤ c ∧ c < 2147483648) (br : -2147483648 ≤ b ∧ b < 2147483648) : Xc (d + 2) 142 [.ref 30, .int (iZ c), .int (iZ b)] (hp w N) (some (.int (iZ (bZ (inC Ds c && inC Ds b && (cl Ds b.toNat).2.1 && bt (cl Ds c.toNat).2.2.2 b)))), hp (uH w 27 (.inr (8, mF (st_ m 0 0)))) N) := by
  have hm := h.1.1
  have X := m134 d hN h.z0 c cr
  have Y := m134 d hN h.z0 b br
  refine Xc.of rfl (by simp [lg_sl, Value.category]) ?_ (h.1.le h.z0.1 (fun j hj => by rw [uH_ne (by omega)]; exact Nat.le_refl _))
  have hc : c1 (lv_args 0 [.ref 30, .int (iZ c), .int (iZ b)]) := by simp [c1, lv_args, Value.category]
  have l0 : x_lk (lv_args 0 [.ref 30, .int (iZ c), .int (iZ b)]) 0 = some (.ref 30) := rfl
  have l1 : x_lk (lv_args 0 [.ref 30, .int (iZ c), .int (iZ b)]) 1 = some (.int (iZ c)) := rfl
  have l2 : x_lk (lv_args 0 [.ref 30, .int (iZ c), .int (iZ b)]) 2 = some (.int (iZ b)) := rfl
  generalize lv_args 0 [.ref 30, .int (iZ c), .int (iZ b)] = lv at hc l0 l1 l2
  have hz := h.z0
  have hm1 := h.z0.1.1
  have h34 : (uH w 27 (.inr (8, mF (st_ m 0 0)))) 34 = cI 1 (x 34) := (hz.1.2 34 (by decide) (by decide)).1
  have n34 : (x 34).length = 30 := (hz.1.2 34 (by decide) (by decide)).2
  have h32 : (uH w 27 (.inr (8, mF (st_ m 0 0)))) 32 = cI 0 (x 32) := (hz.1.2 32 (by decide) (by decide)).1
  have n32 : (x 32).length = 30 := (hz.1.2 32 (by decide) (by decide)).2
  have g5 : Gx q_k142 (d + 1) 5 (lv, [], hp (uH w 27 (.inr (8, mF (st_ m 0 0)))) N) (some (.int (iZ (bZ (inC Ds c && inC Ds b && (cl Ds b.toNat).2.1 && bt (cl Ds c.toNat).2.2.2 b)))), hp (uH w 27 (.inr (8, mF (st_ m 0 0)))) N) := by
    obtain ⟨w1, hw1⟩ : ∃ w1, w1 = uH w 27 (.inr (8, mF (st_ m 0 0))) := ⟨_, rfl⟩
    rw [← hw1] at X Y hm1 h34 h32 ⊢
    refine Gx.fin 60 (X.and Y) (fun K mm => ?_)
    obtain ⟨mm1, mm2⟩ := mm
    cases hin : inC Ds c with
    | false =>
      rw [hin, bZ_f] at mm1
      simp (disch := first | (refine c1_id ?_; assumption) | (refine c1_st rfl ?_; repeat (first | assumption | refine c1_st rfl ?_)) | omega) [nx_l, nx_r, nx_n, x_st, x_push, x_bin, x_div, x_un, x_dup, x_pop, x_dup2, x_goto, x_ifeq, x_ifne, x_iflt, x_ifge, x_ifgt, x_ifle, x_iceq, x_icne, x_iclt, x_icge, x_icgt, x_icle, x_ifnull, x_ifnonnull, x_ldi, x_lda, x_sti, x_sta, x_iinc, x_gf, x_pf, x_ald, x_ast, x_aln, x_len, x_cl_, x_cv, x_cs, x_rc, x_r0, x_isT, x_oi, x_rv, x_ri, x_ra, Value.category, t142_0, t142_1, t142_2, t142_5, t142_6, t142_7, t142_10, t142_13, t142_14, t142_15, t142_18, t142_21, t142_22, t142_25, t142_26, t142_27, t142_30, t142_31, t142_34, t142_35, t142_36, t142_37, t142_38, t142_39, t142_40, t142_41, t142_44, t142_45, t142_48, t142_49, lk_s, hp_get, hp_set, uH_at, uH_ne, uH_upd, uH_swap, iZ_add, iZ_sub, iZ_mul, iZ_neg, iZ_lt, iZ_le, iZ_eq, iZ_div, iZ_of, ix_Z, gZ_map, gZ_mapI, gZ_map', le_0, le_s, sZ_map, sZ_len, bZ_0, bZ_inj, bZ_t, bZ_f, nr_i, nr_0, nr_1, nr_b, ft_i, ft_b, ft_0, ft_1, zl_0, zl_1, mF_len, mg_0, mg_1, mg_2, mg_3, mg_4, mg_5, mg_6, mg_7, mg_8, mg_9, mg_10, mg_11, mg_12, mg_13, mg_14, mg_15, mg_16, mg_17, mg_18, mg_19, mg_20, mg_21, mg_22, mg_23, mg_24, mg_25, mg_26, mg_27, mg_28, mg_29, mg_30, mg_31, mg_32, mg_33, mg_34, mg_35, mg_36, mg_37, mg_38, ms_0, ms_1, ms_2, ms_13, ms_14, ms_15, ms_16, ms_21, ms_22, ms_23, ms_24, ms_28, ms_36, ms_37, ms_38, st_at, st_ne, st_st, st_swap, l0, l1, l2, hm1, mm1, -List.filter_filter, -List.getElem?_map, -List.getD_eq_getElem?_getD]
    | true =>
      rw [hin, bZ_t] at mm1
      cases hib : inC Ds b with
      | false =>
        rw [hib, bZ_f] at mm2
        simp (disch := first | (refine c1_id ?_; assumption) | (refine c1_st rfl ?_; repeat (first | assumption | refine c1_st rfl ?_)) | omega) [nx_l, nx_r, nx_n, x_st, x_push, x_bin, x_div, x_un, x_dup, x_pop, x_dup2, x_goto, x_ifeq, x_ifne, x_iflt, x_ifge, x_ifgt, x_ifle, x_iceq, x_icne, x_iclt, x_icge, x_icgt, x_icle, x_ifnull, x_ifnonnull, x_ldi, x_lda, x_sti, x_sta, x_iinc, x_gf, x_pf, x_ald, x_ast, x_aln, x_len, x_cl_, x_cv, x_cs, x_rc, x_r0, x_isT, x_oi, x_rv, x_ri, x_ra, Value.category, t142_0, t142_1, t142_2, t142_5, t142_6, t142_7, t142_10, t142_13, t142_14, t142_15, t142_18, t142_21, t142_22, t142_25, t142_26, t142_27, t142_30, t142_31, t142_34, t142_35, t142_36, t142_37, t142_38, t142_39, t142_40, t142_41, t142_44, t142_45, t142_48, t142_49, lk_s, hp_get, hp_set, uH_at, uH_ne, uH_upd, uH_swap, iZ_add, iZ_sub, iZ_mul, iZ_neg, iZ_lt, iZ_le, iZ_eq, iZ_div, iZ_of, ix_Z, gZ_map, gZ_mapI, gZ_map', le_0, le_s, sZ_map, sZ_len, bZ_0, bZ_inj, bZ_t, bZ_f, nr_i, nr_0, nr_1, nr_b, ft_i, ft_b, ft_0, ft_1, zl_0, zl_1, mF_len, mg_0, mg_1, mg_2, mg_3, mg_4, mg_5, mg_6, mg_7, mg_8, mg_9, mg_10, mg_11, mg_12, mg_13, mg_14, mg_15, mg_16, mg_17, mg_18, mg_19, mg_20, mg_21, mg_22, mg_23, mg_24, mg_25, mg_26, mg_27, mg_28, mg_29, mg_30, mg_31, mg_32, mg_33, mg_34, mg_35, mg_36, mg_37, mg_38, ms_0, ms_1, ms_2, ms_13, ms_14, ms_15, ms_16, ms_21, ms_22, ms_23, ms_24, ms_28, ms_36, ms_37, ms_38, st_at, st_ne, st_st, st_swap, l0, l1, l2, hm1, mm1, mm2, -List.filter_filter, -List.getElem?_map, -List.getD_eq_getElem?_getD]
      | true =>
        rw [hib, bZ_t] at mm2
        have hc2 : 0 ≤ c ∧ c < Ds.length := by
          unfold inC at hin
          simpa using hin
        have hb2 : 0 ≤ b ∧ b < Ds.length := by
          unfold inC at hib
          simpa using hib
        have h4 := h.2.2.2.1
        have c0 := hc2.1
        have c30 : c < 30 := by omega
        have b0 := hb2.1
        have b30 : b < 30 := by omega
        have e34 := (h.2.2.2.2.1 b.toNat (by omega)).2.1
        rw [show ((b.toNat : Nat) : Int) = b by omega] at e34
        have e32 := (h.rec hc2.1 hc2.2).2.1
        cases hg : (cl Ds b.toNat).2.1 with
        | false =>
          rw [hg, bZ_f] at e34
          simp (disch := first | (refine c1_id ?_; assumption) | (refine c1_st rfl ?_; repeat (first | assumption | refine c1_st rfl ?_)) | omega) [nx_l, nx_r, nx_n, x_st, x_push, x_bin, x_div, x_un, x_dup, x_pop, x_dup2, x_goto, x_ifeq, x_ifne, x_iflt, x_ifge, x_ifgt, x_ifle, x_iceq, x_icne, x_iclt, x_icge, x_icgt, x_icle, x_ifnull, x_ifnonnull, x_ldi, x_lda, x_sti, x_sta, x_iinc, x_gf, x_pf, x_ald, x_ast, x_aln, x_len, x_cl_, x_cv, x_cs, x_rc, x_r0, x_isT, x_oi, x_rv, x_ri, x_ra, Value.category, t142_0, t142_1, t142_2, t142_5, t142_6, t142_7, t142_10, t142_13, t142_14, t142_15, t142_18, t142_21, t142_22, t142_25, t142_26, t142_27, t142_30, t142_31, t142_34, t142_35, t142_36, t142_37, t142_38, t142_39, t142_40, t142_41, t142_44, t142_45, t142_48, t142_49, lk_s, hp_get, hp_set, uH_at, uH_ne, uH_upd, uH_swap, iZ_add, iZ_sub, iZ_mul, iZ_neg, iZ_lt, iZ_le, iZ_eq, iZ_div, iZ_of, ix_Z, gZ_map, gZ_mapI, gZ_map', le_0, le_s, sZ_map, sZ_len, bZ_0, bZ_inj, bZ_t, bZ_f, nr_i, nr_0, nr_1, nr_b, ft_i, ft_b, ft_0, ft_1, zl_0, zl_1, mF_len, mg_0, mg_1, mg_2, mg_3, mg_4, mg_5, mg_6, mg_7, mg_8, mg_9, mg_10, mg_11, mg_12, mg_13, mg_14, mg_15, mg_16, mg_17, mg_18, mg_19, mg_20, mg_21, mg_22, mg_23, mg_24, mg_25, mg_26, mg_27, mg_28, mg_29, mg_30, mg_31, mg_32, mg_33, mg_34, mg_35, mg_36, mg_37, mg_38, ms_0, ms_1, ms_2, ms_13, ms_14, ms_15, ms_16, ms_21, ms_22, ms_23, ms_24, ms_28, ms_36, ms_37, ms_38, st_at, st_ne, st_st, st_swap, l0, l1, l2, hm1, h34, h32, e34, mm1, mm2, -List.filter_filter, -List.getElem?_map, -List.getD_eq_getElem?_getD]
        | true =>
          rw [hg, bZ_t] at e34
          cases hb : bt (cl Ds c.toNat).2.2.2 b with
          | false =>
            have hb' : ¬ ((iZ (cl Ds c.toNat).2.2.2 >>> (iZ b &&& 31)) &&& iZ 1 = iZ 1) := by
              unfold bt at hb
              simpa using hb
            simp (disch := first | (refine c1_id ?_; assumption) | (refine c1_st rfl ?_; repeat (first | assumption | refine c1_st rfl ?_)) | omega) [nx_l, nx_r, nx_n, x_st, x_push, x_bin, x_div, x_un, x_dup, x_pop, x_dup2, x_goto, x_ifeq, x_ifne, x_iflt, x_ifge, x_ifgt, x_ifle, x_iceq, x_icne, x_iclt, x_icge, x_icgt, x_icle, x_ifnull, x_ifnonnull, x_ldi, x_lda, x_sti, x_sta, x_iinc, x_gf, x_pf, x_ald, x_ast, x_aln, x_len, x_cl_, x_cv, x_cs, x_rc, x_r0, x_isT, x_oi, x_rv, x_ri, x_ra, Value.category, t142_0, t142_1, t142_2, t142_5, t142_6, t142_7, t142_10, t142_13, t142_14, t142_15, t142_18, t142_21, t142_22, t142_25, t142_26, t142_27, t142_30, t142_31, t142_34, t142_35, t142_36, t142_37, t142_38, t142_39, t142_40, t142_41, t142_44, t142_45, t142_48, t142_49, lk_s, hp_get, hp_set, uH_at, uH_ne, uH_upd, uH_swap, iZ_add, iZ_sub, iZ_mul, iZ_neg, iZ_lt, iZ_le, iZ_eq, iZ_div, iZ_of, ix_Z, gZ_map, gZ_mapI, gZ_map', le_0, le_s, sZ_map, sZ_len, bZ_0, bZ_inj, bZ_t, bZ_f, nr_i, nr_0, nr_1, nr_b, ft_i, ft_b, ft_0, ft_1, zl_0, zl_1, mF_len, mg_0, mg_1, mg_2, mg_3, mg_4, mg_5, mg_6, mg_7, mg_8, mg_9, mg_10, mg_11, mg_12, mg_13, mg_14, mg_15, mg_16, mg_17, mg_18, mg_19, mg_20, mg_21, mg_22, mg_23, mg_24, mg_25, mg_26, mg_27, mg_28, mg_29, mg_30, mg_31, mg_32, mg_33, mg_34, mg_35, mg_36, mg_37, mg_38, ms_0, ms_1, ms_2, ms_13, ms_14, ms_15, ms_16, ms_21, ms_22, ms_23, ms_24, ms_28, ms_36, ms_37, ms_38, st_at, st_ne, st_st, st_swap, l0, l1, l2, hm1, h34, h32, e34, e32, mm1, mm2, hb', -List.filter_filter, -List.getElem?_map, -List.getD_eq_getElem?_getD]
          | true =>
            have hb' : (iZ (cl Ds c.toNat).2.2.2 >>> (iZ b &&& 31)) &&& iZ 1 = iZ 1 := by
              unfold bt at hb
              simpa using hb
            simp (disch := first | (refine c1_id ?_; assumption) | (refine c1_st rfl ?_; repeat (first | assumption | refine c1_st rfl ?_)) | omega) [nx_l, nx_r, nx_n, x_st, x_push, x_bin, x_div, x_un, x_dup, x_pop, x_dup2, x_goto, x_ifeq, x_ifne, x_iflt, x_ifge, x_ifgt, x_ifle, x_iceq, x_icne, x_iclt, x_icge, x_icgt, x_icle, x_ifnull, x_ifnonnull, x_ldi, x_lda, x_sti, x_sta, x_iinc, x_gf, x_pf, x_ald, x_ast, x_aln, x_len, x_cl_, x_cv, x_cs, x_rc, x_r0, x_isT, x_oi, x_rv, x_ri, x_ra, Value.category, t142_0, t142_1, t142_2, t142_5, t142_6, t142_7, t142_10, t142_13, t142_14, t142_15, t142_18, t142_21, t142_22, t142_25, t142_26, t142_27, t142_30, t142_31, t142_34, t142_35, t142_36, t142_37, t142_38, t142_39, t142_40, t142_41, t142_44, t142_45, t142_48, t142_49, lk_s, hp_get, hp_set, uH_at, uH_ne, uH_upd, uH_swap, iZ_add, iZ_sub, iZ_mul, iZ_neg, iZ_lt, iZ_le, iZ_eq, iZ_div, iZ_of, ix_Z, gZ_map, gZ_mapI, gZ_map', le_0, le_s, sZ_map, sZ_len, bZ_0, bZ_inj, bZ_t, bZ_f, nr_i, nr_0, nr_1, nr_b, ft_i, ft_b, ft_0, ft_1, zl_0, zl_1, mF_len, mg_0, mg_1, mg_2, mg_3, mg_4, mg_5, mg_6, mg_7, mg_8, mg_9, mg_10, mg_11, mg_12, mg_13, mg_14, mg_15, mg_16, mg_17, mg_18, mg_19, mg_20, mg_21, mg_22, mg_23, mg_24, mg_25, mg_26, mg_27, mg_28, mg_29, mg_30, mg_31, mg_32, mg_33, mg_34, mg_35, mg_36, mg_37, mg_38, ms_0, ms_1, ms_2, ms_13, ms_14, ms_15, ms_16, ms_21, ms_22, ms_23, ms_24, ms_28, ms_36, ms_37, ms_38, st_at, st_ne, st_st, st_swap, l0, l1, l2, hm1, h34, h32, e34, e32, mm1, mm2, hb', -List.filter_filter, -List.getElem?_map, -List.getD_eq_getElem?_getD]
  refine Gx.run 20 Cs.tt (fun K _ => ?_) g5
  simp (disch := first | (refine c1_id ?_; assumption) | (refine c1_st rfl ?_; repeat (first | assumption | refine c1_st rfl ?_)) | omega) [nx_l, nx_r, nx_n, x_st, x_push, x_bin, x_div, x_un, x_dup, x_pop, x_dup2, x_goto, x_ifeq, x_ifne, x_iflt, x_ifge, x_ifgt, x_ifle, x_iceq, x_icne, x_iclt, x_icge, x_icgt, x_icle, x_ifnull, x_ifnonnull, x_ldi, x_lda, x_sti, x_sta, x_iinc, x_gf, x_pf, x_ald, x_ast, x_aln, x_len, x_cl_, x_cv, x_cs, x_rc, x_r0, x_isT, x_oi, x_rv, x_ri, x_ra, Value.category, t142_0, t142_1, t142_2, t142_5, t142_6, t142_7, t142_10, t142_13, t142_14, t142_15, t142_18, t142_21, t142_22, t142_25, t142_26, t142_27, t142_30, t142_31, t142_34, t142_35, t142_36, t142_37, t142_38, t142_39, t142_40, t142_41, t142_44, t142_45, t142_48, t142_49, lk_s, hp_get, hp_set, uH_at, uH_ne, uH_upd, uH_swap, iZ_add, iZ_sub, iZ_mul, iZ_neg, iZ_lt, iZ_le, iZ_eq, iZ_div, iZ_of, ix_Z, gZ_map, gZ_mapI, gZ_map', le_0, le_s, sZ_map, sZ_len, bZ_0, bZ_inj, bZ_t, bZ_f, nr_i, nr_0, nr_1, nr_b, ft_i, ft_b, ft_0, ft_1, zl_0, zl_1, mF_len, mg_0, mg_1, mg_2, mg_3, mg_4, mg_5, mg_6, mg_7, mg_8, mg_9, mg_10, mg_11, mg_12, mg_13, mg_14, mg_15, mg_16, mg_17, mg_18, mg_19, mg_20, mg_21, mg_22, mg_23, mg_24, mg_25, mg_26, mg_27, mg_28, mg_29, mg_30, mg_31, mg_32, mg_33, mg_34, mg_35, mg_36, mg_37, mg_38, ms_0, ms_1, ms_2, ms_13, ms_14, ms_15, ms_16, ms_21, ms_22, ms_23, ms_24, ms_28, ms_36, ms_37, ms_38, st_at, st_ne, st_st, st_swap, l0, hm, -List.filter_filter, -List.getElem?_map, -List.getD_eq_getElem?_getD]
def rfA : List (List (Int × List Int) × Bool × Int × Int) → Int → Int
  | [], _ => -1
  | y :: t, k => if y.1.length = 0 then k else rfA t (k + 1)
theorem l143 (d : Nat) (hN : 53 ≤ N) (h : RS w m x Ds T U) : ∀ (r : Nat) (k : Nat) (lv : xL), k + r = Ds.length → c1 lv → x_lk lv 0 = some (.ref 30) → x_lk lv 1 = some (.int (iZ (k : Int))) → Gx q_k143 d 7 (lv, [], hp w N) (some (.int (iZ (rfA (Ds.drop k) k))), hp w N) := by
  obtain ⟨h1, h2, h3, h4, h5⟩ := id h
  have hm := h1.1
  have h30 : w 30 = cI 0 (x 30) := (h1.2 30 (by decide) (by decide)).1
  have n30 : (x 30).length = 30 := (h1.2 30 (by decide) (by decide)).2
  intro r
  induction r with
  | zero =>
    intro k lv hk hc l0 l1
    rw [List.drop_eq_nil_of_le (by omega)]
    have b1 : (Ds.length : Int) ≤ (k : Int) := by omega
    refine Gx.fin 20 Cs.tt (fun K _ => ?_)
    have er : rfA [] (k : Int) = -1 := rfl
    rw [er]
    have hk9 : (k : Int) ≤ 30 := by omega
    simp (disch := first | (refine c1_id ?_; assumption) | (refine c1_st rfl ?_; repeat (first | assumption | refine c1_st rfl ?_)) | omega) [nx_l, nx_r, nx_n, x_st, x_push, x_bin, x_div, x_un, x_dup, x_pop, x_dup2, x_goto, x_ifeq, x_ifne, x_iflt, x_ifge, x_ifgt, x_ifle, x_iceq, x_icne, x_iclt, x_icge, x_icgt, x_icle, x_ifnull, x_ifnonnull, x_ldi, x_lda, x_sti, x_sta, x_iinc, x_gf, x_pf, x_ald, x_ast, x_aln, x_len, x_cl_, x_cv, x_cs, x_rc, x_r0, x_isT, x_oi, x_rv, x_ri, x_ra, Value.category, t143_0, t143_1, t143_2, t143_5, t143_6, t143_7, t143_8, t143_9, t143_12, t143_15, t143_16, t143_19, t143_20, t143_21, t143_24, t143_25, t143_26, t143_29, t143_32, t143_33, lk_s, hp_get, hp_set, uH_at, uH_ne, uH_upd, uH_swap, iZ_add, iZ_sub, iZ_mul, iZ_neg, iZ_lt, iZ_le, iZ_eq, iZ_div, iZ_of, ix_Z, gZ_map, gZ_mapI, gZ_map', le_0, le_s, sZ_map, sZ_len, bZ_0, bZ_inj, bZ_t, bZ_f, nr_i, nr_0, nr_1, nr_b, ft_i, ft_b, ft_0, ft_1, zl_0, zl_1, mF_len, mg_0, mg_1, mg_2, mg_3, mg_4, mg_5, mg_6, mg_7, mg_8, mg_9, mg_10, mg_11, mg_12, mg_13, mg_14, mg_15, mg_16, mg_17, mg_18, mg_19, mg_20, mg_21, mg_22, mg_23, mg_24, mg_25, mg_26, mg_27, mg_28, mg_29, mg_30, mg_31, mg_32, mg_33, mg_34, mg_35, mg_36, mg_37, mg_38, ms_0, ms_1, ms_2, ms_13, ms_14, ms_15, ms_16, ms_21, ms_22, ms_23, ms_24, ms_28, ms_36, ms_37, ms_38, st_at, st_ne, st_st, st_swap, l0, l1, hm, h3, b1, -List.filter_filter, -List.getElem?_map, -List.getD_eq_getElem?_getD]
  | succ r ih =>
    intro k lv hk hc l0 l1
    have b1 : ¬ (Ds.length : Int) ≤ (k : Int) := by omega
    have hk9 : (k : Int) < 30 := by omega
    have hD := (h.2.2.2.2.1 k (by omega)).1
    obtain ⟨⟨a1, a2, a3, a4, a5, a6, a7, a8, a9⟩, gD, _⟩ := hD
    have ed : Ds.drop k = cl Ds k :: Ds.drop (k + 1) := by
      rw [List.drop_eq_getElem_cons (by omega)]
      unfold cl
      rw [List.getD_eq_getElem?_getD, List.getElem?_eq_getElem (by omega)]
      rfl
    rw [ed]
    by_cases hz : (cl Ds k).1.length = 0
    · have er : rfA (cl Ds k :: Ds.drop (k + 1)) (k : Int) = (k : Int) := if_pos hz
      rw [er]
      have a7' : gZ (x 30) (k : Int) = 0 := by rw [a7, hz]; rfl
      refine Gx.fin 40 Cs.tt (fun K _ => ?_)
      simp (disch := first | (refine c1_id ?_; assumption) | (refine c1_st rfl ?_; repeat (first | assumption | refine c1_st rfl ?_)) | omega) [nx_l, nx_r, nx_n, x_st, x_push, x_bin, x_div, x_un, x_dup, x_pop, x_dup2, x_goto, x_ifeq, x_ifne, x_iflt, x_ifge, x_ifgt, x_ifle, x_iceq, x_icne, x_iclt, x_icge, x_icgt, x_icle, x_ifnull, x_ifnonnull, x_ldi, x_lda, x_sti, x_sta, x_iinc, x_gf, x_pf, x_ald, x_ast, x_aln, x_len, x_cl_, x_cv, x_cs, x_rc, x_r0, x_isT, x_oi, x_rv, x_ri, x_ra, Value.category, t143_0, t143_1, t143_2, t143_5, t143_6, t143_7, t143_8, t143_9, t143_12, t143_15, t143_16, t143_19, t143_20, t143_21, t143_24, t143_25, t143_26, t143_29, t143_32, t143_33, lk_s, hp_get, hp_set, uH_at, uH_ne, uH_upd, uH_swap, iZ_add, iZ_sub, iZ_mul, iZ_neg, iZ_lt, iZ_le, iZ_eq, iZ_div, iZ_of, ix_Z, gZ_map, gZ_mapI, gZ_map', le_0, le_s, sZ_map, sZ_len, bZ_0, bZ_inj, bZ_t, bZ_f, nr_i, nr_0, nr_1, nr_b, ft_i, ft_b, ft_0, ft_1, zl_0, zl_1, mF_len, mg_0, mg_1, mg_2, mg_3, mg_4, mg_5, mg_6, mg_7, mg_8, mg_9, mg_10, mg_11, mg_12, mg_13, mg_14, mg_15, mg_16, mg_17, mg_18, mg_19, mg_20, mg_21, mg_22, mg_23, mg_24, mg_25, mg_26, mg_27, mg_28, mg_29, mg_30, mg_31, mg_32, mg_33, mg_34, mg_35, mg_36, mg_37, mg_38, ms_0, ms_1, ms_2, ms_13, ms_14, ms_15, ms_16, ms_21, ms_22, ms_23, ms_24, ms_28, ms_36, ms_37, ms_38, st_at, st_ne, st_st, st_swap, l0, l1, hm, h3, h30, b1, a7', -List.filter_filter, -List.getElem?_map, -List.getD_eq_getElem?_getD]
    · have er : rfA (cl Ds k :: Ds.drop (k + 1)) (k : Int) = rfA (Ds.drop (k + 1)) ((k + 1 : Nat) : Int) := if_neg hz
      rw [er]
      have C1 := c1_st (i := 1) (v := .int (iZ ((k : Int) + 1))) rfl hc
      have g := ih (k + 1) _ (by omega) C1 (by rw [lk_s hc]; exact l0) (by rw [lk_s hc]; rfl)
      obtain ⟨v, hv⟩ : ∃ v : Int, v = ((cl Ds k).1.length : Int) := ⟨_, rfl⟩
      rw [← hv] at a7
      have v0 : ¬ v = 0 := by omega
      have v1 : 0 ≤ v := by omega
      have v9 : v ≤ 6 := by omega
      refine Gx.run 40 Cs.tt (fun K _ => ?_) g
      simp (disch := first | (refine c1_id ?_; assumption) | (refine c1_st rfl ?_; repeat (first | assumption | refine c1_st rfl ?_)) | omega) [nx_l, nx_r, nx_n, x_st, x_push, x_bin, x_div, x_un, x_dup, x_pop, x_dup2, x_goto, x_ifeq, x_ifne, x_iflt, x_ifge, x_ifgt, x_ifle, x_iceq, x_icne, x_iclt, x_icge, x_icgt, x_icle, x_ifnull, x_ifnonnull, x_ldi, x_lda, x_sti, x_sta, x_iinc, x_gf, x_pf, x_ald, x_ast, x_aln, x_len, x_cl_, x_cv, x_cs, x_rc, x_r0, x_isT, x_oi, x_rv, x_ri, x_ra, Value.category, t143_0, t143_1, t143_2, t143_5, t143_6, t143_7, t143_8, t143_9, t143_12, t143_15, t143_16, t143_19, t143_20, t143_21, t143_24, t143_25, t143_26, t143_29, t143_32, t143_33, lk_s, hp_get, hp_set, uH_at, uH_ne, uH_upd, uH_swap, iZ_add, iZ_sub, iZ_mul, iZ_neg, iZ_lt, iZ_le, iZ_eq, iZ_div, iZ_of, ix_Z, gZ_map, gZ_mapI, gZ_map', le_0, le_s, sZ_map, sZ_len, bZ_0, bZ_inj, bZ_t, bZ_f, nr_i, nr_0, nr_1, nr_b, ft_i, ft_b, ft_0, ft_1, zl_0, zl_1, mF_len, mg_0, mg_1, mg_2, mg_3, mg_4, mg_5, mg_6, mg_7, mg_8, mg_9, mg_10, mg_11, mg_12, mg_13, mg_14, mg_15, mg_16, mg_17, mg_18, mg_19, mg_20, mg_21, mg_22, mg_23, mg_24, mg_25, mg_26, mg_27, mg_28, mg_29, mg_30, mg_31, mg_32, mg_33, mg_34, mg_35, mg_36, mg_37, mg_38, ms_0, ms_1, ms_2, ms_13, ms_14, ms_15, ms_16, ms_21, ms_22, ms_23, ms_24, ms_28, ms_36, ms_37, ms_38, st_at, st_ne, st_st, st_swap, l0, l1, hm, h3, h30, b1, a7, v0, -List.filter_filter, -List.getElem?_map, -List.getD_eq_getElem?_getD]
theorem m143 (d : Nat) (hN : 53 ≤ N) (h : RS w m x Ds T U) : Xc (d + 1) 143 [.ref 30] (hp w N) (some (.int (iZ (rfA Ds 0))), hp (uH w 27 (.inr (8, mF (st_ m 0 0)))) N) := by
  have hm := h.1.1
  refine Xc.of rfl (by simp [lg_sl, Value.category]) ?_ (h.1.le h.z0.1 (fun j hj => by rw [uH_ne (by omega)]; exact Nat.le_refl _))
  have hc : c1 (lv_args 0 [.ref 30]) := by simp [c1, lv_args, Value.category]
  have l0 : x_lk (lv_args 0 [.ref 30]) 0 = some (.ref 30) := rfl
  generalize lv_args 0 [.ref 30] = lv at hc l0
  have C1 := c1_st (i := 1) (v := .int (iZ 0)) rfl hc
  have g := l143 d hN h.z0 Ds.length 0 _ (by omega) C1 (by rw [lk_s hc]; exact l0) (by rw [lk_s hc]; rfl)
  rw [List.drop_zero] at g
  refine Gx.run 20 Cs.tt (fun K _ => ?_) g
  simp (disch := first | (refine c1_id ?_; assumption) | (refine c1_st rfl ?_; repeat (first | assumption | refine c1_st rfl ?_)) | omega) [nx_l, nx_r, nx_n, x_st, x_push, x_bin, x_div, x_un, x_dup, x_pop, x_dup2, x_goto, x_ifeq, x_ifne, x_iflt, x_ifge, x_ifgt, x_ifle, x_iceq, x_icne, x_iclt, x_icge, x_icgt, x_icle, x_ifnull, x_ifnonnull, x_ldi, x_lda, x_sti, x_sta, x_iinc, x_gf, x_pf, x_ald, x_ast, x_aln, x_len, x_cl_, x_cv, x_cs, x_rc, x_r0, x_isT, x_oi, x_rv, x_ri, x_ra, Value.category, t143_0, t143_1, t143_2, t143_5, t143_6, t143_7, t143_8, t143_9, t143_12, t143_15, t143_16, t143_19, t143_20, t143_21, t143_24, t143_25, t143_26, t143_29, t143_32, t143_33, lk_s, hp_get, hp_set, uH_at, uH_ne, uH_upd, uH_swap, iZ_add, iZ_sub, iZ_mul, iZ_neg, iZ_lt, iZ_le, iZ_eq, iZ_div, iZ_of, ix_Z, gZ_map, gZ_mapI, gZ_map', le_0, le_s, sZ_map, sZ_len, bZ_0, bZ_inj, bZ_t, bZ_f, nr_i, nr_0, nr_1, nr_b, ft_i, ft_b, ft_0, ft_1, zl_0, zl_1, mF_len, mg_0, mg_1, mg_2, mg_3, mg_4, mg_5, mg_6, mg_7, mg_8, mg_9, mg_10, mg_11, mg_12, mg_13, mg_14, mg_15, mg_16, mg_17, mg_18, mg_19, mg_20, mg_21, mg_22, mg_23, mg_24, mg_25, mg_26, mg_27, mg_28, mg_29, mg_30, mg_31, mg_32, mg_33, mg_34, mg_35, mg_36, mg_37, mg_38, ms_0, ms_1, ms_2, ms_13, ms_14, ms_15, ms_16, ms_21, ms_22, ms_23, ms_24, ms_28, ms_36, ms_37, ms_38, st_at, st_ne, st_st, st_swap, l0, hm, -List.filter_filter, -List.getElem?_map, -List.getD_eq_getElem?_getD]
theorem seg_snoc {P : List Int} {n : Nat} {v : Int} (hn : n < P.length) {T : List Int} (hT : seg P 0 n = T) (hl : T.length = n) : seg (sZ P n v) 0 ((n : Int) + 1) = T ++ [v] := by
  have e : (T ++ [v]).length = n + 1 := by simp [hl]
  have := seg_of (S := sZ P n v) (l := T ++ [v]) (a := 0) (by omega) (by rw [e, sZ_len]; omega) (fun j hj => by
    rw [e] at hj
    rw [Int.zero_add, gZ_sZ (by omega) (by omega) (by omega), getD_app]
    by_cases hjn : j < T.length
    · rw [if_neg (by omega), if_pos hjn]
      exact seg_get (by omega) hT (by omega)
    · have : j = n := by omega
      subst this
      rw [if_pos rfl, if_neg hjn, hl, Nat.sub_self]
      rfl)
  rw [e, show (0 : Int) + ((n + 1 : Nat) : Int) = (n : Int) + 1 by omega] at this
  exact this
theorem m94 (d : Nat) (hN : 53 ≤ N) (h : RS w m x Ds T U) (c : Int) (c0 : 0 ≤ c) (c1_ : c < 65536) :
    ∃ (w' : Nat → xC) (m' : Nat → Int) (x' : Nat → List Int), FrR w w' ∧ m' 0 = 0 ∧ m' 1 = m 1 ∧ RS w' m' x' Ds (if 32 ≤ c ∧ c ≤ 126 ∧ T.length < 60 then T ++ [c] else T) U ∧ Xc (d + 1) 94 [.ref 30, .int (iZ c)] (hp w N) (some (.int (iZ (bZ (decide (32 ≤ c ∧ c ≤ 126 ∧ T.length < 60))))), hp w' N) := by
  have h' := h
  obtain ⟨h1, h2, h3, h4, h5, h6, h7, h8, h9, h10, h11⟩ := h'
  have hm := h1.1
  have hc : c1 (lv_args 0 [.ref 30, .int (iZ c)]) := by simp [c1, lv_args, Value.category]
  have l0 : x_lk (lv_args 0 [.ref 30, .int (iZ c)]) 0 = some (.ref 30) := rfl
  have l1 : x_lk (lv_args 0 [.ref 30, .int (iZ c)]) 1 = some (.int (iZ c)) := rfl
  obtain ⟨n, hn⟩ : ∃ n : Int, n = (T.length : Int) := ⟨_, rfl⟩
  rw [← hn] at h8
  have n0 : 0 ≤ n := by omega
  have n60 : n ≤ 60 := by omega
  by_cases hok : 32 ≤ c ∧ c ≤ 126 ∧ T.length < 60
  · rw [if_pos hok, decide_eq_true hok]
    have h37 : w 37 = cI 2 (x 37) := (h1.2 37 (by decide) (by decide)).1
    have n37 : (x 37).length = 60 := (h1.2 37 (by decide) (by decide)).2
    have nc := nar_c (c := c) (by omega) (by omega)
    have R1 : RO (uH (uH w 27 (.inr (8, mF (st_ (st_ m 0 0) 3 (n + 1))))) 37 (cI 2 (sZ (x 37) n c))) (st_ (st_ m 0 0) 3 (n + 1)) (ux x 37 (sZ (x 37) n c)) := (h1.fld _).set (j := 37) (by decide) (by rw [sZ_len]; exact n37)
    have F1 : FrR w (uH (uH w 27 (.inr (8, mF (st_ (st_ m 0 0) 3 (n + 1))))) 37 (cI 2 (sZ (x 37) n c))) := ((FrR.rf w).up (by decide) (by decide)).up (by decide) (by decide)
    refine ⟨_, _, _, F1, by rw [st_ne (by decide), st_at], by rw [st_ne (by decide), st_ne (by decide)], h.mv R1 ⟨h2.1, h2.2⟩ (fun j j0 j1 => ux_ne (by omega)) (by rw [st_ne (by decide), st_ne (by decide)]) (by rw [st_at, List.length_append, hn]; rfl) (by rw [List.length_append]; show T.length + 1 ≤ 60; omega) ?_ (fun z hz => ?_), Xc.of rfl (by simp [lg_sl, Value.category]) ?_ (h1.le R1 (fun j hj => by rw [F1 j hj]; exact Nat.le_refl _))⟩
    · rw [ux_at, List.length_append, hn]
      have := seg_snoc (v := c) (show T.length < (x 37).length by omega) h10 rfl
      rw [show (((T.length + [c].length : Nat)) : Int) = (T.length : Int) + 1 by show (((T.length + 1 : Nat)) : Int) = _; omega]
      exact this
    · rcases List.mem_append.mp hz with hz | hz
      · exact h11 z hz
      · rw [List.mem_singleton] at hz
        subst hz
        exact ⟨hok.1, hok.2.1⟩
    · generalize lv_args 0 [.ref 30, .int (iZ c)] = lv at hc l0 l1
      refine Gx.fin 60 Cs.tt (fun K _ => ?_)
      have b1 : ¬ c < 32 := by omega
      have b2 : ¬ 126 < c := by omega
      have b3 : n < 60 := by omega
      simp (disch := first | (refine c1_id ?_; assumption) | (refine c1_st rfl ?_; repeat (first | assumption | refine c1_st rfl ?_)) | omega) [nx_l, nx_r, nx_n, x_st, x_push, x_bin, x_div, x_un, x_dup, x_pop, x_dup2, x_goto, x_ifeq, x_ifne, x_iflt, x_ifge, x_ifgt, x_ifle, x_iceq, x_icne, x_iclt, x_icge, x_icgt, x_icle, x_ifnull, x_ifnonnull, x_ldi, x_lda, x_sti, x_sta, x_iinc, x_gf, x_pf, x_ald, x_ast, x_aln, x_len, x_cl_, x_cv, x_cs, x_rc, x_r0, x_isT, x_oi, x_rv, x_ri, x_ra, Value.category, t94_0, t94_1, t94_2, t94_5, t94_6, t94_8, t94_11, t94_12, t94_14, t94_17, t94_18, t94_21, t94_23, t94_26, t94_27, t94_28, t94_29, t94_32, t94_33, t94_36, t94_37, t94_38, t94_39, t94_40, t94_43, t94_44, t94_45, t94_48, t94_49, lk_s, hp_get, hp_set, uH_at, uH_ne, uH_upd, uH_swap, iZ_add, iZ_sub, iZ_mul, iZ_neg, iZ_lt, iZ_le, iZ_eq, iZ_div, iZ_of, ix_Z, gZ_map, gZ_mapI, gZ_map', le_0, le_s, sZ_map, sZ_len, bZ_0, bZ_inj, bZ_t, bZ_f, nr_i, nr_0, nr_1, nr_b, ft_i, ft_b, ft_0, ft_1, zl_0, zl_1, zl_32, zl_60, zl_126, mF_len, mg_0, mg_1, mg_2, mg_3, mg_4, mg_5, mg_6, mg_7, mg_8, mg_9, mg_10, mg_11, mg_12, mg_13, mg_14, mg_15, mg_16, mg_17, mg_18, mg_19, mg_20, mg_21, mg_22, mg_23, mg_24, mg_25, mg_26, mg_27, mg_28, mg_29, mg_30, mg_31, mg_32, mg_33, mg_34, mg_35, mg_36, mg_37, mg_38, ms_0, ms_1, ms_2, ms_13, ms_14, ms_15, ms_16, ms_21, ms_22, ms_23, ms_24, ms_28, ms_36, ms_37, ms_38, st_at, st_ne, st_st, st_swap, l0, l1, hm, h37, h8, b1, b2, b3, nc, -List.filter_filter, -List.getElem?_map, -List.getD_eq_getElem?_getD]
  · rw [if_neg hok, decide_eq_false hok]
    refine ⟨_, _, x, (FrR.rf w).up (by decide) (by decide), by rw [st_at], by rw [st_ne (by decide)], h.z0, Xc.of rfl (by simp [lg_sl, Value.category]) ?_ (h.1.le h.z0.1 (fun j hj => by rw [uH_ne (by omega)]; exact Nat.le_refl _))⟩
    generalize lv_args 0 [.ref 30, .int (iZ c)] = lv at hc l0 l1
    refine Gx.fin 60 Cs.tt (fun K _ => ?_)
    by_cases b1 : c < 32
    · simp (disch := first | (refine c1_id ?_; assumption) | (refine c1_st rfl ?_; repeat (first | assumption | refine c1_st rfl ?_)) | omega) [nx_l, nx_r, nx_n, x_st, x_push, x_bin, x_div, x_un, x_dup, x_pop, x_dup2, x_goto, x_ifeq, x_ifne, x_iflt, x_ifge, x_ifgt, x_ifle, x_iceq, x_icne, x_iclt, x_icge, x_icgt, x_icle, x_ifnull, x_ifnonnull, x_ldi, x_lda, x_sti, x_sta, x_iinc, x_gf, x_pf, x_ald, x_ast, x_aln, x_len, x_cl_, x_cv, x_cs, x_rc, x_r0, x_isT, x_oi, x_rv, x_ri, x_ra, Value.category, t94_0, t94_1, t94_2, t94_5, t94_6, t94_8, t94_11, t94_12, t94_14, t94_17, t94_18, t94_21, t94_23, t94_26, t94_27, t94_28, t94_29, t94_32, t94_33, t94_36, t94_37, t94_38, t94_39, t94_40, t94_43, t94_44, t94_45, t94_48, t94_49, lk_s, hp_get, hp_set, uH_at, uH_ne, uH_upd, uH_swap, iZ_add, iZ_sub, iZ_mul, iZ_neg, iZ_lt, iZ_le, iZ_eq, iZ_div, iZ_of, ix_Z, gZ_map, gZ_mapI, gZ_map', le_0, le_s, sZ_map, sZ_len, bZ_0, bZ_inj, bZ_t, bZ_f, nr_i, nr_0, nr_1, nr_b, ft_i, ft_b, ft_0, ft_1, zl_0, zl_1, zl_32, zl_60, zl_126, mF_len, mg_0, mg_1, mg_2, mg_3, mg_4, mg_5, mg_6, mg_7, mg_8, mg_9, mg_10, mg_11, mg_12, mg_13, mg_14, mg_15, mg_16, mg_17, mg_18, mg_19, mg_20, mg_21, mg_22, mg_23, mg_24, mg_25, mg_26, mg_27, mg_28, mg_29, mg_30, mg_31, mg_32, mg_33, mg_34, mg_35, mg_36, mg_37, mg_38, ms_0, ms_1, ms_2, ms_13, ms_14, ms_15, ms_16, ms_21, ms_22, ms_23, ms_24, ms_28, ms_36, ms_37, ms_38, st_at, st_ne, st_st, st_swap, l0, l1, hm, h8, b1, -List.filter_filter, -List.getElem?_map, -List.getD_eq_getElem?_getD]
    · by_cases b2 : 126 < c
      · simp (disch := first | (refine c1_id ?_; assumption) | (refine c1_st rfl ?_; repeat (first | assumption | refine c1_st rfl ?_)) | omega) [nx_l, nx_r, nx_n, x_st, x_push, x_bin, x_div, x_un, x_dup, x_pop, x_dup2, x_goto, x_ifeq, x_ifne, x_iflt, x_ifge, x_ifgt, x_ifle, x_iceq, x_icne, x_iclt, x_icge, x_icgt, x_icle, x_ifnull, x_ifnonnull, x_ldi, x_lda, x_sti, x_sta, x_iinc, x_gf, x_pf, x_ald, x_ast, x_aln, x_len, x_cl_, x_cv, x_cs, x_rc, x_r0, x_isT, x_oi, x_rv, x_ri, x_ra, Value.category, t94_0, t94_1, t94_2, t94_5, t94_6, t94_8, t94_11, t94_12, t94_14, t94_17, t94_18, t94_21, t94_23, t94_26, t94_27, t94_28, t94_29, t94_32, t94_33, t94_36, t94_37, t94_38, t94_39, t94_40, t94_43, t94_44, t94_45, t94_48, t94_49, lk_s, hp_get, hp_set, uH_at, uH_ne, uH_upd, uH_swap, iZ_add, iZ_sub, iZ_mul, iZ_neg, iZ_lt, iZ_le, iZ_eq, iZ_div, iZ_of, ix_Z, gZ_map, gZ_mapI, gZ_map', le_0, le_s, sZ_map, sZ_len, bZ_0, bZ_inj, bZ_t, bZ_f, nr_i, nr_0, nr_1, nr_b, ft_i, ft_b, ft_0, ft_1, zl_0, zl_1, zl_32, zl_60, zl_126, mF_len, mg_0, mg_1, mg_2, mg_3, mg_4, mg_5, mg_6, mg_7, mg_8, mg_9, mg_10, mg_11, mg_12, mg_13, mg_14, mg_15, mg_16, mg_17, mg_18, mg_19, mg_20, mg_21, mg_22, mg_23, mg_24, mg_25, mg_26, mg_27, mg_28, mg_29, mg_30, mg_31, mg_32, mg_33, mg_34, mg_35, mg_36, mg_37, mg_38, ms_0, ms_1, ms_2, ms_13, ms_14, ms_15, ms_16, ms_21, ms_22, ms_23, ms_24, ms_28, ms_36, ms_37, ms_38, st_at, st_ne, st_st, st_swap, l0, l1, hm, h8, b1, b2, -List.filter_filter, -List.getElem?_map, -List.getD_eq_getElem?_getD]
      · have b3 : ¬ n < 60 := by omega
        simp (disch := first | (refine c1_id ?_; assumption) | (refine c1_st rfl ?_; repeat (first | assumption | refine c1_st rfl ?_)) | omega) [nx_l, nx_r, nx_n, x_st, x_push, x_bin, x_div, x_un, x_dup, x_pop, x_dup2, x_goto, x_ifeq, x_ifne, x_iflt, x_ifge, x_ifgt, x_ifle, x_iceq, x_icne, x_iclt, x_icge, x_icgt, x_icle, x_ifnull, x_ifnonnull, x_ldi, x_lda, x_sti, x_sta, x_iinc, x_gf, x_pf, x_ald, x_ast, x_aln, x_len, x_cl_, x_cv, x_cs, x_rc, x_r0, x_isT, x_oi, x_rv, x_ri, x_ra, Value.category, t94_0, t94_1, t94_2, t94_5, t94_6, t94_8, t94_11, t94_12, t94_14, t94_17, t94_18, t94_21, t94_23, t94_26, t94_27, t94_28, t94_29, t94_32, t94_33, t94_36, t94_37, t94_38, t94_39, t94_40, t94_43, t94_44, t94_45, t94_48, t94_49, lk_s, hp_get, hp_set, uH_at, uH_ne, uH_upd, uH_swap, iZ_add, iZ_sub, iZ_mul, iZ_neg, iZ_lt, iZ_le, iZ_eq, iZ_div, iZ_of, ix_Z, gZ_map, gZ_mapI, gZ_map', le_0, le_s, sZ_map, sZ_len, bZ_0, bZ_inj, bZ_t, bZ_f, nr_i, nr_0, nr_1, nr_b, ft_i, ft_b, ft_0, ft_1, zl_0, zl_1, zl_32, zl_60, zl_126, mF_len, mg_0, mg_1, mg_2, mg_3, mg_4, mg_5, mg_6, mg_7, mg_8, mg_9, mg_10, mg_11, mg_12, mg_13, mg_14, mg_15, mg_16, mg_17, mg_18, mg_19, mg_20, mg_21, mg_22, mg_23, mg_24, mg_25, mg_26, mg_27, mg_28, mg_29, mg_30, mg_31, mg_32, mg_33, mg_34, mg_35, mg_36, mg_37, mg_38, ms_0, ms_1, ms_2, ms_13, ms_14, ms_15, ms_16, ms_21, ms_22, ms_23, ms_24, ms_28, ms_36, ms_37, ms_38, st_at, st_ne, st_st, st_swap, l0, l1, hm, h8, b1, b2, b3, -List.filter_filter, -List.getElem?_map, -List.getD_eq_getElem?_getD]
end AN
