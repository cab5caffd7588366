/-! the class: the draft; a literal under way in a form -/
theorem f31_0 : x_fetch q_k31 0 = x_lda 1 0 := rfl
theorem t31_0 (C : xF) (s n : Nat) (z : xS) : x_to q_k31 C s (n + 1) 0 z = x_nx q_k31 C s n ((x_lda 1 0) C z) := x_to_at f31_0 C s n z
theorem f31_1 : x_fetch q_k31 1 = x_gf 4 3 1 := rfl
theorem t31_1 (C : xF) (s n : Nat) (z : xS) : x_to q_k31 C s (n + 1) 1 z = x_nx q_k31 C s n ((x_gf 4 3 1) C z) := x_to_at f31_1 C s n z
theorem f31_4 : x_fetch q_k31 4 = x_sti 5 1 := rfl
theorem t31_4 (C : xF) (s n : Nat) (z : xS) : x_to q_k31 C s (n + 1) 4 z = x_nx q_k31 C s n ((x_sti 5 1) C z) := x_to_at f31_4 C s n z
theorem f31_5 : x_fetch q_k31 5 = x_ldi 6 1 := rfl
theorem t31_5 (C : xF) (s n : Nat) (z : xS) : x_to q_k31 C s (n + 1) 5 z = x_nx q_k31 C s n ((x_ldi 6 1) C z) := x_to_at f31_5 C s n z
theorem f31_6 : x_fetch q_k31 6 = x_lda 7 0 := rfl
theorem t31_6 (C : xF) (s n : Nat) (z : xS) : x_to q_k31 C s (n + 1) 6 z = x_nx q_k31 C s n ((x_lda 7 0) C z) := x_to_at f31_6 C s n z
theorem f31_7 : x_fetch q_k31 7 = x_gf 10 3 2 := rfl
theorem t31_7 (C : xF) (s n : Nat) (z : xS) : x_to q_k31 C s (n + 1) 7 z = x_nx q_k31 C s n ((x_gf 10 3 2) C z) := x_to_at f31_7 C s n z
theorem f31_10 : x_fetch q_k31 10 = x_st (x_icge 43 13) := rfl
theorem t31_10 (C : xF) (s n : Nat) (z : xS) : x_to q_k31 C s (n + 1) 10 z = x_nx q_k31 C s n ((x_st (x_icge 43 13)) C z) := x_to_at f31_10 C s n z
theorem f31_13 : x_fetch q_k31 13 = x_lda 14 0 := rfl
theorem t31_13 (C : xF) (s n : Nat) (z : xS) : x_to q_k31 C s (n + 1) 13 z = x_nx q_k31 C s n ((x_lda 14 0) C z) := x_to_at f31_13 C s n z
theorem f31_14 : x_fetch q_k31 14 = x_gf 17 3 0 := rfl
theorem t31_14 (C : xF) (s n : Nat) (z : xS) : x_to q_k31 C s (n + 1) 14 z = x_nx q_k31 C s n ((x_gf 17 3 0) C z) := x_to_at f31_14 C s n z
theorem f31_17 : x_fetch q_k31 17 = x_ldi 18 1 := rfl
theorem t31_17 (C : xF) (s n : Nat) (z : xS) : x_to q_k31 C s (n + 1) 17 z = x_nx q_k31 C s n ((x_ldi 18 1) C z) := x_to_at f31_17 C s n z
theorem f31_18 : x_fetch q_k31 18 = x_ald 19 2 := rfl
theorem t31_18 (C : xF) (s n : Nat) (z : xS) : x_to q_k31 C s (n + 1) 18 z = x_nx q_k31 C s n ((x_ald 19 2) C z) := x_to_at f31_18 C s n z
theorem f31_19 : x_fetch q_k31 19 = x_st (x_push 21 (.int (124))) := rfl
theorem t31_19 (C : xF) (s n : Nat) (z : xS) : x_to q_k31 C s (n + 1) 19 z = x_nx q_k31 C s n ((x_st (x_push 21 (.int (124)))) C z) := x_to_at f31_19 C s n z
theorem f31_21 : x_fetch q_k31 21 = x_st (x_iceq 43 24) := rfl
theorem t31_21 (C : xF) (s n : Nat) (z : xS) : x_to q_k31 C s (n + 1) 21 z = x_nx q_k31 C s n ((x_st (x_iceq 43 24)) C z) := x_to_at f31_21 C s n z
theorem f31_24 : x_fetch q_k31 24 = x_lda 25 0 := rfl
theorem t31_24 (C : xF) (s n : Nat) (z : xS) : x_to q_k31 C s (n + 1) 24 z = x_nx q_k31 C s n ((x_lda 25 0) C z) := x_to_at f31_24 C s n z
theorem f31_25 : x_fetch q_k31 25 = x_gf 28 3 0 := rfl
theorem t31_25 (C : xF) (s n : Nat) (z : xS) : x_to q_k31 C s (n + 1) 25 z = x_nx q_k31 C s n ((x_gf 28 3 0) C z) := x_to_at f31_25 C s n z
theorem f31_28 : x_fetch q_k31 28 = x_ldi 29 1 := rfl
theorem t31_28 (C : xF) (s n : Nat) (z : xS) : x_to q_k31 C s (n + 1) 28 z = x_nx q_k31 C s n ((x_ldi 29 1) C z) := x_to_at f31_28 C s n z
theorem f31_29 : x_fetch q_k31 29 = x_ald 30 2 := rfl
theorem t31_29 (C : xF) (s n : Nat) (z : xS) : x_to q_k31 C s (n + 1) 29 z = x_nx q_k31 C s n ((x_ald 30 2) C z) := x_to_at f31_29 C s n z
theorem f31_30 : x_fetch q_k31 30 = x_st (x_push 32 (.int (61))) := rfl
theorem t31_30 (C : xF) (s n : Nat) (z : xS) : x_to q_k31 C s (n + 1) 30 z = x_nx q_k31 C s n ((x_st (x_push 32 (.int (61)))) C z) := x_to_at f31_30 C s n z
theorem f31_32 : x_fetch q_k31 32 = x_st (x_icne 37 35) := rfl
theorem t31_32 (C : xF) (s n : Nat) (z : xS) : x_to q_k31 C s (n + 1) 32 z = x_nx q_k31 C s n ((x_st (x_icne 37 35)) C z) := x_to_at f31_32 C s n z
theorem f31_35 : x_fetch q_k31 35 = x_st (x_push 36 (.int (1))) := rfl
theorem t31_35 (C : xF) (s n : Nat) (z : xS) : x_to q_k31 C s (n + 1) 35 z = x_nx q_k31 C s n ((x_st (x_push 36 (.int (1)))) C z) := x_to_at f31_35 C s n z
theorem f31_36 : x_fetch q_k31 36 = x_ri (.boolean) := rfl
theorem t31_36 (C : xF) (s n : Nat) (z : xS) : x_to q_k31 C s (n + 1) 36 z = x_nx q_k31 C s n ((x_ri (.boolean)) C z) := x_to_at f31_36 C s n z
theorem f31_37 : x_fetch q_k31 37 = x_iinc 40 1 (1) := rfl
theorem t31_37 (C : xF) (s n : Nat) (z : xS) : x_to q_k31 C s (n + 1) 37 z = x_nx q_k31 C s n ((x_iinc 40 1 (1)) C z) := x_to_at f31_37 C s n z
theorem f31_40 : x_fetch q_k31 40 = x_st (x_goto 5) := rfl
theorem t31_40 (C : xF) (s n : Nat) (z : xS) : x_to q_k31 C s (n + 1) 40 z = x_nx q_k31 C s n ((x_st (x_goto 5)) C z) := x_to_at f31_40 C s n z
theorem f31_43 : x_fetch q_k31 43 = x_st (x_push 44 (.int (0))) := rfl
theorem t31_43 (C : xF) (s n : Nat) (z : xS) : x_to q_k31 C s (n + 1) 43 z = x_nx q_k31 C s n ((x_st (x_push 44 (.int (0)))) C z) := x_to_at f31_43 C s n z
theorem f31_44 : x_fetch q_k31 44 = x_ri (.boolean) := rfl
theorem t31_44 (C : xF) (s n : Nat) (z : xS) : x_to q_k31 C s (n + 1) 44 z = x_nx q_k31 C s n ((x_ri (.boolean)) C z) := x_to_at f31_44 C s n z
theorem f32_0 : x_fetch q_k32 0 = x_lda 1 0 := rfl
theorem t32_0 (C : xF) (s n : Nat) (z : xS) : x_to q_k32 C s (n + 1) 0 z = x_nx q_k32 C s n ((x_lda 1 0) C z) := x_to_at f32_0 C s n z
theorem f32_1 : x_fetch q_k32 1 = x_gf 4 3 1 := rfl
theorem t32_1 (C : xF) (s n : Nat) (z : xS) : x_to q_k32 C s (n + 1) 1 z = x_nx q_k32 C s n ((x_gf 4 3 1) C z) := x_to_at f32_1 C s n z
theorem f32_4 : x_fetch q_k32 4 = x_lda 5 0 := rfl
theorem t32_4 (C : xF) (s n : Nat) (z : xS) : x_to q_k32 C s (n + 1) 4 z = x_nx q_k32 C s n ((x_lda 5 0) C z) := x_to_at f32_4 C s n z
theorem f32_5 : x_fetch q_k32 5 = x_gf 8 3 2 := rfl
theorem t32_5 (C : xF) (s n : Nat) (z : xS) : x_to q_k32 C s (n + 1) 5 z = x_nx q_k32 C s n ((x_gf 8 3 2) C z) := x_to_at f32_5 C s n z
theorem f32_8 : x_fetch q_k32 8 = x_st (x_icge 43 11) := rfl
theorem t32_8 (C : xF) (s n : Nat) (z : xS) : x_to q_k32 C s (n + 1) 8 z = x_nx q_k32 C s n ((x_st (x_icge 43 11)) C z) := x_to_at f32_8 C s n z
theorem f32_11 : x_fetch q_k32 11 = x_lda 12 0 := rfl
theorem t32_11 (C : xF) (s n : Nat) (z : xS) : x_to q_k32 C s (n + 1) 11 z = x_nx q_k32 C s n ((x_lda 12 0) C z) := x_to_at f32_11 C s n z
theorem f32_12 : x_fetch q_k32 12 = x_gf 15 3 0 := rfl
theorem t32_12 (C : xF) (s n : Nat) (z : xS) : x_to q_k32 C s (n + 1) 12 z = x_nx q_k32 C s n ((x_gf 15 3 0) C z) := x_to_at f32_12 C s n z
theorem f32_15 : x_fetch q_k32 15 = x_lda 16 0 := rfl
theorem t32_15 (C : xF) (s n : Nat) (z : xS) : x_to q_k32 C s (n + 1) 15 z = x_nx q_k32 C s n ((x_lda 16 0) C z) := x_to_at f32_15 C s n z
theorem f32_16 : x_fetch q_k32 16 = x_gf 19 3 1 := rfl
theorem t32_16 (C : xF) (s n : Nat) (z : xS) : x_to q_k32 C s (n + 1) 16 z = x_nx q_k32 C s n ((x_gf 19 3 1) C z) := x_to_at f32_16 C s n z
theorem f32_19 : x_fetch q_k32 19 = x_ald 20 2 := rfl
theorem t32_19 (C : xF) (s n : Nat) (z : xS) : x_to q_k32 C s (n + 1) 19 z = x_nx q_k32 C s n ((x_ald 20 2) C z) := x_to_at f32_19 C s n z
theorem f32_20 : x_fetch q_k32 20 = x_st (x_push 22 (.int (65))) := rfl
theorem t32_20 (C : xF) (s n : Nat) (z : xS) : x_to q_k32 C s (n + 1) 20 z = x_nx q_k32 C s n ((x_st (x_push 22 (.int (65)))) C z) := x_to_at f32_20 C s n z
theorem f32_22 : x_fetch q_k32 22 = x_st (x_iclt 43 25) := rfl
theorem t32_22 (C : xF) (s n : Nat) (z : xS) : x_to q_k32 C s (n + 1) 22 z = x_nx q_k32 C s n ((x_st (x_iclt 43 25)) C z) := x_to_at f32_22 C s n z
theorem f32_25 : x_fetch q_k32 25 = x_lda 26 0 := rfl
theorem t32_25 (C : xF) (s n : Nat) (z : xS) : x_to q_k32 C s (n + 1) 25 z = x_nx q_k32 C s n ((x_lda 26 0) C z) := x_to_at f32_25 C s n z
theorem f32_26 : x_fetch q_k32 26 = x_gf 29 3 0 := rfl
theorem t32_26 (C : xF) (s n : Nat) (z : xS) : x_to q_k32 C s (n + 1) 26 z = x_nx q_k32 C s n ((x_gf 29 3 0) C z) := x_to_at f32_26 C s n z
theorem f32_29 : x_fetch q_k32 29 = x_lda 30 0 := rfl
theorem t32_29 (C : xF) (s n : Nat) (z : xS) : x_to q_k32 C s (n + 1) 29 z = x_nx q_k32 C s n ((x_lda 30 0) C z) := x_to_at f32_29 C s n z
theorem f32_30 : x_fetch q_k32 30 = x_gf 33 3 1 := rfl
theorem t32_30 (C : xF) (s n : Nat) (z : xS) : x_to q_k32 C s (n + 1) 30 z = x_nx q_k32 C s n ((x_gf 33 3 1) C z) := x_to_at f32_30 C s n z
theorem f32_33 : x_fetch q_k32 33 = x_ald 34 2 := rfl
theorem t32_33 (C : xF) (s n : Nat) (z : xS) : x_to q_k32 C s (n + 1) 33 z = x_nx q_k32 C s n ((x_ald 34 2) C z) := x_to_at f32_33 C s n z
theorem f32_34 : x_fetch q_k32 34 = x_st (x_push 36 (.int (90))) := rfl
theorem t32_34 (C : xF) (s n : Nat) (z : xS) : x_to q_k32 C s (n + 1) 34 z = x_nx q_k32 C s n ((x_st (x_push 36 (.int (90)))) C z) := x_to_at f32_34 C s n z
theorem f32_36 : x_fetch q_k32 36 = x_st (x_icgt 43 39) := rfl
theorem t32_36 (C : xF) (s n : Nat) (z : xS) : x_to q_k32 C s (n + 1) 36 z = x_nx q_k32 C s n ((x_st (x_icgt 43 39)) C z) := x_to_at f32_36 C s n z
theorem f32_39 : x_fetch q_k32 39 = x_st (x_push 40 (.int (1))) := rfl
theorem t32_39 (C : xF) (s n : Nat) (z : xS) : x_to q_k32 C s (n + 1) 39 z = x_nx q_k32 C s n ((x_st (x_push 40 (.int (1)))) C z) := x_to_at f32_39 C s n z
theorem f32_40 : x_fetch q_k32 40 = x_st (x_goto 44) := rfl
theorem t32_40 (C : xF) (s n : Nat) (z : xS) : x_to q_k32 C s (n + 1) 40 z = x_nx q_k32 C s n ((x_st (x_goto 44)) C z) := x_to_at f32_40 C s n z
theorem f32_43 : x_fetch q_k32 43 = x_st (x_push 44 (.int (0))) := rfl
theorem t32_43 (C : xF) (s n : Nat) (z : xS) : x_to q_k32 C s (n + 1) 43 z = x_nx q_k32 C s n ((x_st (x_push 44 (.int (0)))) C z) := x_to_at f32_43 C s n z
theorem f32_44 : x_fetch q_k32 44 = x_ri (.boolean) := rfl
theorem t32_44 (C : xF) (s n : Nat) (z : xS) : x_to q_k32 C s (n + 1) 44 z = x_nx q_k32 C s n ((x_ri (.boolean)) C z) := x_to_at f32_44 C s n z
theorem f34_0 : x_fetch q_k34 0 = x_lda 1 0 := rfl
theorem t34_0 (C : xF) (s n : Nat) (z : xS) : x_to q_k34 C s (n + 1) 0 z = x_nx q_k34 C s n ((x_lda 1 0) C z) := x_to_at f34_0 C s n z
theorem f34_1 : x_fetch q_k34 1 = x_gf 4 3 1 := rfl
theorem t34_1 (C : xF) (s n : Nat) (z : xS) : x_to q_k34 C s (n + 1) 1 z = x_nx q_k34 C s n ((x_gf 4 3 1) C z) := x_to_at f34_1 C s n z
theorem f34_4 : x_fetch q_k34 4 = x_lda 5 0 := rfl
theorem t34_4 (C : xF) (s n : Nat) (z : xS) : x_to q_k34 C s (n + 1) 4 z = x_nx q_k34 C s n ((x_lda 5 0) C z) := x_to_at f34_4 C s n z
theorem f34_5 : x_fetch q_k34 5 = x_gf 8 3 2 := rfl
theorem t34_5 (C : xF) (s n : Nat) (z : xS) : x_to q_k34 C s (n + 1) 5 z = x_nx q_k34 C s n ((x_gf 8 3 2) C z) := x_to_at f34_5 C s n z
theorem f34_8 : x_fetch q_k34 8 = x_st (x_icge 24 11) := rfl
theorem t34_8 (C : xF) (s n : Nat) (z : xS) : x_to q_k34 C s (n + 1) 8 z = x_nx q_k34 C s n ((x_st (x_icge 24 11)) C z) := x_to_at f34_8 C s n z
theorem f34_11 : x_fetch q_k34 11 = x_lda 12 0 := rfl
theorem t34_11 (C : xF) (s n : Nat) (z : xS) : x_to q_k34 C s (n + 1) 11 z = x_nx q_k34 C s n ((x_lda 12 0) C z) := x_to_at f34_11 C s n z
theorem f34_12 : x_fetch q_k34 12 = x_gf 15 3 0 := rfl
theorem t34_12 (C : xF) (s n : Nat) (z : xS) : x_to q_k34 C s (n + 1) 12 z = x_nx q_k34 C s n ((x_gf 15 3 0) C z) := x_to_at f34_12 C s n z
theorem f34_15 : x_fetch q_k34 15 = x_lda 16 0 := rfl
theorem t34_15 (C : xF) (s n : Nat) (z : xS) : x_to q_k34 C s (n + 1) 15 z = x_nx q_k34 C s n ((x_lda 16 0) C z) := x_to_at f34_15 C s n z
theorem f34_16 : x_fetch q_k34 16 = x_gf 19 3 1 := rfl
theorem t34_16 (C : xF) (s n : Nat) (z : xS) : x_to q_k34 C s (n + 1) 16 z = x_nx q_k34 C s n ((x_gf 19 3 1) C z) := x_to_at f34_16 C s n z
theorem f34_19 : x_fetch q_k34 19 = x_ald 20 2 := rfl
theorem t34_19 (C : xF) (s n : Nat) (z : xS) : x_to q_k34 C s (n + 1) 19 z = x_nx q_k34 C s n ((x_ald 20 2) C z) := x_to_at f34_19 C s n z
theorem f34_20 : x_fetch q_k34 20 = x_ldi 21 1 := rfl
theorem t34_20 (C : xF) (s n : Nat) (z : xS) : x_to q_k34 C s (n + 1) 20 z = x_nx q_k34 C s n ((x_ldi 21 1) C z) := x_to_at f34_20 C s n z
theorem f34_21 : x_fetch q_k34 21 = x_st (x_iceq 26 24) := rfl
theorem t34_21 (C : xF) (s n : Nat) (z : xS) : x_to q_k34 C s (n + 1) 21 z = x_nx q_k34 C s n ((x_st (x_iceq 26 24)) C z) := x_to_at f34_21 C s n z
theorem f34_24 : x_fetch q_k34 24 = x_st (x_push 25 (.int (0))) := rfl
theorem t34_24 (C : xF) (s n : Nat) (z : xS) : x_to q_k34 C s (n + 1) 24 z = x_nx q_k34 C s n ((x_st (x_push 25 (.int (0)))) C z) := x_to_at f34_24 C s n z
theorem f34_25 : x_fetch q_k34 25 = x_ri (.boolean) := rfl
theorem t34_25 (C : xF) (s n : Nat) (z : xS) : x_to q_k34 C s (n + 1) 25 z = x_nx q_k34 C s n ((x_ri (.boolean)) C z) := x_to_at f34_25 C s n z
theorem f34_26 : x_fetch q_k34 26 = x_lda 27 0 := rfl
theorem t34_26 (C : xF) (s n : Nat) (z : xS) : x_to q_k34 C s (n + 1) 26 z = x_nx q_k34 C s n ((x_lda 27 0) C z) := x_to_at f34_26 C s n z
theorem f34_27 : x_fetch q_k34 27 = x_st (x_dup 28) := rfl
theorem t34_27 (C : xF) (s n : Nat) (z : xS) : x_to q_k34 C s (n + 1) 27 z = x_nx q_k34 C s n ((x_st (x_dup 28)) C z) := x_to_at f34_27 C s n z
theorem f34_28 : x_fetch q_k34 28 = x_gf 31 3 1 := rfl
theorem t34_28 (C : xF) (s n : Nat) (z : xS) : x_to q_k34 C s (n + 1) 28 z = x_nx q_k34 C s n ((x_gf 31 3 1) C z) := x_to_at f34_28 C s n z
theorem f34_31 : x_fetch q_k34 31 = x_st (x_push 32 (.int (1))) := rfl
theorem t34_31 (C : xF) (s n : Nat) (z : xS) : x_to q_k34 C s (n + 1) 31 z = x_nx q_k34 C s n ((x_st (x_push 32 (.int (1)))) C z) := x_to_at f34_31 C s n z
theorem f34_32 : x_fetch q_k34 32 = x_st (x_bin 33 (fun a b => a + b)) := rfl
theorem t34_32 (C : xF) (s n : Nat) (z : xS) : x_to q_k34 C s (n + 1) 32 z = x_nx q_k34 C s n ((x_st (x_bin 33 (fun a b => a + b))) C z) := x_to_at f34_32 C s n z
theorem f34_33 : x_fetch q_k34 33 = x_pf 36 3 1 (.int) := rfl
theorem t34_33 (C : xF) (s n : Nat) (z : xS) : x_to q_k34 C s (n + 1) 33 z = x_nx q_k34 C s n ((x_pf 36 3 1 (.int)) C z) := x_to_at f34_33 C s n z
theorem f34_36 : x_fetch q_k34 36 = x_st (x_push 37 (.int (1))) := rfl
theorem t34_36 (C : xF) (s n : Nat) (z : xS) : x_to q_k34 C s (n + 1) 36 z = x_nx q_k34 C s n ((x_st (x_push 37 (.int (1)))) C z) := x_to_at f34_36 C s n z
theorem f34_37 : x_fetch q_k34 37 = x_ri (.boolean) := rfl
theorem t34_37 (C : xF) (s n : Nat) (z : xS) : x_to q_k34 C s (n + 1) 37 z = x_nx q_k34 C s n ((x_ri (.boolean)) C z) := x_to_at f34_37 C s n z
abbrev pO (p l : Int) : xC := .inr (3, [.ref 5, .int (iZ p), .int (iZ l)])
def DX (Tx : List Int) (l p : Int) (r : List Int) : Prop := Tx.length = 60 ∧ 0 ≤ p ∧ p + r.length = l ∧ l ≤ 60 ∧ ∀ j : Nat, j < r.length → gZ Tx (p + j) = r.getD j 0 ∧ 32 ≤ r.getD j 0 ∧ r.getD j 0 ≤ 126
theorem DX.tl {Tx r : List Int} {l p c : Int} (h : DX Tx l p (c :: r)) : DX Tx l (p + 1) r := by
  obtain ⟨h1, h2, h3, h4, h5⟩ := h
  simp only [List.length_cons] at h3 h5
  refine ⟨h1, by omega, by omega, h4, fun j hj => ?_⟩
  have := h5 (j + 1) (by omega)
  rw [show p + 1 + (j : Int) = p + ((j + 1 : Nat) : Int) by omega]
  exact this
theorem DX.hd {Tx r : List Int} {l p c : Int} (h : DX Tx l p (c :: r)) : gZ Tx p = c ∧ 32 ≤ c ∧ c ≤ 126 ∧ 0 ≤ p ∧ p < l ∧ l ≤ 60 ∧ Tx.length = 60 := by
  obtain ⟨h1, h2, h3, h4, h5⟩ := h
  simp only [List.length_cons] at h3 h5
  have := h5 0 (by omega)
  rw [show p + ((0 : Nat) : Int) = p by omega] at this
  exact ⟨this.1, this.2.1, this.2.2, h2, by omega, h4, h1⟩
theorem DX.nil {Tx : List Int} {l p : Int} (h : DX Tx l p []) : p = l ∧ 0 ≤ p ∧ l ≤ 60 := by
  obtain ⟨h1, h2, h3, h4, h5⟩ := h
  simp only [List.length_nil] at h3
  exact ⟨by omega, h2, h4⟩
def eqA : List Int → Bool
  | [] => false
  | c :: r => if c = 124 then false else if c = 61 then true else eqA r
/-- an open literal in the form at a -/
def LQ (w : Nat → xC) (a : Nat) (C : List (Int × List Int)) (b : Int) (t : List Int) : Prop := ∃ S E B : List Int, fo w a S E B C.length ((flt C).length + t.length) (flt C).length ∧ S.length = 80 ∧ E.length = 7 ∧ B.length = 7 ∧ FW C S E B ∧ gV C ∧ gZ B C.length = b ∧ (∀ j : Nat, j < t.length → gZ S ((flt C).length + j) = vc (t.getD j 0)) ∧ t.length ≤ 40 ∧ (flt C).length ≤ 40 ∧ C.length ≤ 6 ∧ ∀ s ∈ t, sgV s
/-- a clause in the form at a -/
def LA (w : Nat → xC) (a : Nat) (C : List (Int × List Int)) : Prop := ∃ (S E B : List Int) (o : Int), fo w a S E B C.length (flt C).length o ∧ S.length = 80 ∧ E.length = 7 ∧ B.length = 7 ∧ FW C S E B ∧ gV C ∧ (flt C).length ≤ 40 ∧ C.length ≤ 6
/-- whatever stands in the form at a -/
def JK (w : Nat → xC) (a : Nat) : Prop := ∃ (S E B : List Int) (c o : Int) (u : List Int), fo w a S E B c u.length o ∧ S.length = 80 ∧ E.length = 7 ∧ B.length = 7 ∧ u.length ≤ 80 ∧ (∀ s ∈ u, sgV s) ∧ ∀ j : Nat, j < u.length → gZ S j = vc (u.getD j 0)
theorem LA.jk {w : Nat → xC} {a : Nat} {C : List (Int × List Int)} (h : LA w a C) : JK w a := by
  obtain ⟨S, E, B, o, h1, h2, h3, h4, h5, h6, h7, h8⟩ := h
  exact ⟨S, E, B, _, o, flt C, h1, h2, h3, h4, by omega, fun s hs => by
    obtain ⟨y, hy, hz⟩ := flt_of hs
    exact (h6 y hy).2 s hz, h5.1⟩
theorem LQ.jk {w : Nat → xC} {a : Nat} {C : List (Int × List Int)} {b : Int} {t : List Int} (h : LQ w a C b t) : JK w a := by
  obtain ⟨S, E, B, h1, h2, h3, h4, h5, h6, h7, h8, h9, h10, h11, h12⟩ := h
  refine ⟨S, E, B, _, _, flt C ++ t, by rw [List.length_append, Int.natCast_add]; exact h1, h2, h3, h4, by rw [List.length_append]; omega, fun s hs => ?_, fun j hj => ?_⟩
  · rcases List.mem_append.mp hs with hs | hs
    · obtain ⟨y, hy, hz⟩ := flt_of hs
      exact (h6 y hy).2 s hz
    · exact h12 s hs
  · rw [List.length_append] at hj
    by_cases hl : j < (flt C).length
    · rw [h5.1 j hl]
      congr 1
      rw [List.getD_eq_getElem?_getD, List.getD_eq_getElem?_getD, List.getElem?_append_left hl]
    · have := h8 (j - (flt C).length) (by omega)
      rw [show ((flt C).length : Int) + ((j - (flt C).length : Nat) : Int) = (j : Int) by omega] at this
      rw [this]
      congr 1
      rw [List.getD_eq_getElem?_getD, List.getD_eq_getElem?_getD, List.getElem?_append_right (by omega)]
theorem LQ.k7 {w : Nat → xC} {a : Nat} {C : List (Int × List Int)} {b : Int} {t : List Int} (h : LQ w a C b t) : ∃ F : List Value, w a = .inr (4, F) := by
  obtain ⟨S, E, B, h1, _⟩ := h
  exact ⟨_, h1.1⟩
theorem LA.k7 {w : Nat → xC} {a : Nat} {C : List (Int × List Int)} (h : LA w a C) : ∃ F : List Value, w a = .inr (4, F) := by
  obtain ⟨S, E, B, o, h1, _⟩ := h
  exact ⟨_, h1.1⟩
section DR0
variable {w : Nat → xC} {N : Nat} {Tx r : List Int} {l p c : Int}
theorem m34y (d : Nat) (hN : 53 ≤ N) (hD : w 1 = pO p l) (hX : w 2 = cI 2 Tx) (h : DX Tx l p (c :: r)) : Xc (d + 1) 34 [.ref 4, .int (iZ c)] (hp w N) (some (.int (iZ 1)), hp (uH w 1 (pO (p + 1) l)) N) := by
  obtain ⟨e1, e2, e3, e4, e5, e6, e7⟩ := h.hd
  refine Xc.of rfl (by simp [lg_sl, Value.category]) ?_ (hp_up (by rw [hD]; simp [x_c1]))
  have hc : c1 (lv_args 0 [.ref 4, .int (iZ c)]) := by simp [c1, lv_args, Value.category]
  have l0 : x_lk (lv_args 0 [.ref 4, .int (iZ c)]) 0 = some (.ref 4) := rfl
  have l1 : x_lk (lv_args 0 [.ref 4, .int (iZ c)]) 1 = some (.int (iZ c)) := rfl
  generalize lv_args 0 [.ref 4, .int (iZ c)] = lv at hc l0 l1
  refine Gx.fin 40 Cs.tt (fun X _ => ?_)
  have b1 : ¬ l ≤ p := by omega
  simp (disch := first | (refine c1_id ?_; assumption) | (refine c1_st rfl ?_; repeat (first | assumption | refine c1_st rfl ?_)) | omega) [nx_l, nx_r, nx_n, x_st, x_push, x_bin, x_div, x_un, x_dup, x_pop, x_dup2, x_goto, x_ifeq, x_ifne, x_iflt, x_ifge, x_ifgt, x_ifle, x_iceq, x_icne, x_iclt, x_icge, x_icgt, x_icle, x_ifnull, x_ifnonnull, x_ldi, x_lda, x_sti, x_sta, x_iinc, x_gf, x_pf, x_ald, x_ast, x_aln, x_len, x_cl_, x_cv, x_cs, x_rc, x_r0, x_isT, x_oi, x_rv, x_ri, x_ra, Value.category, t34_0, t34_1, t34_4, t34_5, t34_8, t34_11, t34_12, t34_15, t34_16, t34_19, t34_20, t34_21, t34_24, t34_25, t34_26, t34_27, t34_28, t34_31, t34_32, t34_33, t34_36, t34_37, lk_s, hp_get, hp_set, uH_at, uH_ne, uH_upd, uH_swap, iZ_add, iZ_sub, iZ_mul, iZ_neg, iZ_lt, iZ_le, iZ_eq, iZ_div, iZ_of, ix_Z, gZ_map, gZ_mapI, gZ_map', le_0, le_s, sZ_map, sZ_len, bZ_0, bZ_inj, bZ_t, bZ_f, nr_i, nr_0, nr_1, nr_b, ft_i, ft_b, ft_0, ft_1, zl_0, zl_1, l0, l1, hD, hX, e1, b1, pO, -List.filter_filter, -List.getElem?_map, -List.getD_eq_getElem?_getD]
theorem m34n (d : Nat) (hN : 53 ≤ N) (hD : w 1 = pO p l) (hX : w 2 = cI 2 Tx) (h : DX Tx l p r) (c0 : 0 ≤ c) (c9 : c < 128) (hr : ∀ r', r ≠ c :: r') : Xc (d + 1) 34 [.ref 4, .int (iZ c)] (hp w N) (some (.int (iZ 0)), hp w N) := by
  refine Xc.of rfl (by simp [lg_sl, Value.category]) ?_ (x_le.rf)
  have hc : c1 (lv_args 0 [.ref 4, .int (iZ c)]) := by simp [c1, lv_args, Value.category]
  have l0 : x_lk (lv_args 0 [.ref 4, .int (iZ c)]) 0 = some (.ref 4) := rfl
  have l1 : x_lk (lv_args 0 [.ref 4, .int (iZ c)]) 1 = some (.int (iZ c)) := rfl
  generalize lv_args 0 [.ref 4, .int (iZ c)] = lv at hc l0 l1
  refine Gx.fin 40 Cs.tt (fun X _ => ?_)
  cases r with
  | nil =>
    obtain ⟨e1, e2, e3⟩ := h.nil
    have b1 : l ≤ p := by omega
    simp (disch := first | (refine c1_id ?_; assumption) | (refine c1_st rfl ?_; repeat (first | assumption | refine c1_st rfl ?_)) | omega) [nx_l, nx_r, nx_n, x_st, x_push, x_bin, x_div, x_un, x_dup, x_pop, x_dup2, x_goto, x_ifeq, x_ifne, x_iflt, x_ifge, x_ifgt, x_ifle, x_iceq, x_icne, x_iclt, x_icge, x_icgt, x_icle, x_ifnull, x_ifnonnull, x_ldi, x_lda, x_sti, x_sta, x_iinc, x_gf, x_pf, x_ald, x_ast, x_aln, x_len, x_cl_, x_cv, x_cs, x_rc, x_r0, x_isT, x_oi, x_rv, x_ri, x_ra, Value.category, t34_0, t34_1, t34_4, t34_5, t34_8, t34_11, t34_12, t34_15, t34_16, t34_19, t34_20, t34_21, t34_24, t34_25, t34_26, t34_27, t34_28, t34_31, t34_32, t34_33, t34_36, t34_37, lk_s, hp_get, hp_set, uH_at, uH_ne, uH_upd, uH_swap, iZ_add, iZ_sub, iZ_mul, iZ_neg, iZ_lt, iZ_le, iZ_eq, iZ_div, iZ_of, ix_Z, gZ_map, gZ_mapI, gZ_map', le_0, le_s, sZ_map, sZ_len, bZ_0, bZ_inj, bZ_t, bZ_f, nr_i, nr_0, nr_1, nr_b, ft_i, ft_b, ft_0, ft_1, zl_0, zl_1, l0, l1, hD, hX, b1, pO, -List.filter_filter, -List.getElem?_map, -List.getD_eq_getElem?_getD]
  | cons c' r' =>
    obtain ⟨e1, e2, e3, e4, e5, e6, e7⟩ := h.hd
    have b1 : ¬ l ≤ p := by omega
    have b2 : ¬ c' = c := fun z => hr r' (by rw [z])
    simp (disch := first | (refine c1_id ?_; assumption) | (refine c1_st rfl ?_; repeat (first | assumption | refine c1_st rfl ?_)) | omega) [nx_l, nx_r, nx_n, x_st, x_push, x_bin, x_div, x_un, x_dup, x_pop, x_dup2, x_goto, x_ifeq, x_ifne, x_iflt, x_ifge, x_ifgt, x_ifle, x_iceq, x_icne, x_iclt, x_icge, x_icgt, x_icle, x_ifnull, x_ifnonnull, x_ldi, x_lda, x_sti, x_sta, x_iinc, x_gf, x_pf, x_ald, x_ast, x_aln, x_len, x_cl_, x_cv, x_cs, x_rc, x_r0, x_isT, x_oi, x_rv, x_ri, x_ra, Value.category, t34_0, t34_1, t34_4, t34_5, t34_8, t34_11, t34_12, t34_15, t34_16, t34_19, t34_20, t34_21, t34_24, t34_25, t34_26, t34_27, t34_28, t34_31, t34_32, t34_33, t34_36, t34_37, lk_s, hp_get, hp_set, uH_at, uH_ne, uH_upd, uH_swap, iZ_add, iZ_sub, iZ_mul, iZ_neg, iZ_lt, iZ_le, iZ_eq, iZ_div, iZ_of, ix_Z, gZ_map, gZ_mapI, gZ_map', le_0, le_s, sZ_map, sZ_len, bZ_0, bZ_inj, bZ_t, bZ_f, nr_i, nr_0, nr_1, nr_b, ft_i, ft_b, ft_0, ft_1, zl_0, zl_1, l0, l1, hD, hX, e1, b1, b2, pO, -List.filter_filter, -List.getElem?_map, -List.getD_eq_getElem?_getD]
theorem m32 (d : Nat) (hN : 53 ≤ N) (hD : w 1 = pO p l) (hX : w 2 = cI 2 Tx) (h : DX Tx l p r) : Xc (d + 1) 32 [.ref 4] (hp w N) (some (.int (iZ (bZ (hdU r)))), hp w N) := by
  refine Xc.of rfl (by simp [lg_sl, Value.category]) ?_ (x_le.rf)
  have hc : c1 (lv_args 0 [.ref 4]) := by simp [c1, lv_args, Value.category]
  have l0 : x_lk (lv_args 0 [.ref 4]) 0 = some (.ref 4) := rfl
  generalize lv_args 0 [.ref 4] = lv at hc l0
  refine Gx.fin 40 Cs.tt (fun X _ => ?_)
  cases r with
  | nil =>
    obtain ⟨e1, e2, e3⟩ := h.nil
    have b1 : l ≤ p := by omega
    have eU : hdU [] = false := rfl
    rw [eU, bZ_f]
    simp (disch := first | (refine c1_id ?_; assumption) | (refine c1_st rfl ?_; repeat (first | assumption | refine c1_st rfl ?_)) | omega) [nx_l, nx_r, nx_n, x_st, x_push, x_bin, x_div, x_un, x_dup, x_pop, x_dup2, x_goto, x_ifeq, x_ifne, x_iflt, x_ifge, x_ifgt, x_ifle, x_iceq, x_icne, x_iclt, x_icge, x_icgt, x_icle, x_ifnull, x_ifnonnull, x_ldi, x_lda, x_sti, x_sta, x_iinc, x_gf, x_pf, x_ald, x_ast, x_aln, x_len, x_cl_, x_cv, x_cs, x_rc, x_r0, x_isT, x_oi, x_rv, x_ri, x_ra, Value.category, t32_0, t32_1, t32_4, t32_5, t32_8, t32_11, t32_12, t32_15, t32_16, t32_19, t32_20, t32_22, t32_25, t32_26, t32_29, t32_30, t32_33, t32_34, t32_36, t32_39, t32_40, t32_43, t32_44, lk_s, hp_get, hp_set, uH_at, uH_ne, uH_upd, uH_swap, iZ_add, iZ_sub, iZ_mul, iZ_neg, iZ_lt, iZ_le, iZ_eq, iZ_div, iZ_of, ix_Z, gZ_map, gZ_mapI, gZ_map', le_0, le_s, sZ_map, sZ_len, bZ_0, bZ_inj, bZ_t, bZ_f, nr_i, nr_0, nr_1, nr_b, ft_i, ft_b, ft_0, ft_1, zl_0, zl_1, zl_65, zl_90, l0, hD, hX, b1, pO, -List.filter_filter, -List.getElem?_map, -List.getD_eq_getElem?_getD]
  | cons c' r' =>
    obtain ⟨e1, e2, e3, e4, e5, e6, e7⟩ := h.hd
    have b1 : ¬ l ≤ p := by omega
    have eU : hdU (c' :: r') = decide (65 ≤ c' ∧ c' ≤ 90) := rfl
    rw [eU]
    by_cases k1 : c' < 65
    · rw [decide_eq_false (by omega), bZ_f]
      simp (disch := first | (refine c1_id ?_; assumption) | (refine c1_st rfl ?_; repeat (first | assumption | refine c1_st rfl ?_)) | omega) [nx_l, nx_r, nx_n, x_st, x_push, x_bin, x_div, x_un, x_dup, x_pop, x_dup2, x_goto, x_ifeq, x_ifne, x_iflt, x_ifge, x_ifgt, x_ifle, x_iceq, x_icne, x_iclt, x_icge, x_icgt, x_icle, x_ifnull, x_ifnonnull, x_ldi, x_lda, x_sti, x_sta, x_iinc, x_gf, x_pf, x_ald, x_ast, x_aln, x_len, x_cl_, x_cv, x_cs, x_rc, x_r0, x_isT, x_oi, x_rv, x_ri, x_ra, Value.category, t32_0, t32_1, t32_4, t32_5, t32_8, t32_11, t32_12, t32_15, t32_16, t32_19, t32_20, t32_22, t32_25, t32_26, t32_29, t32_30, t32_33, t32_34, t32_36, t32_39, t32_40, t32_43, t32_44, lk_s, hp_get, hp_set, uH_at, uH_ne, uH_upd, uH_swap, iZ_add, iZ_sub, iZ_mul, iZ_neg, iZ_lt, iZ_le, iZ_eq, iZ_div, iZ_of, ix_Z, gZ_map, gZ_mapI, gZ_map', le_0, le_s, sZ_map, sZ_len, bZ_0, bZ_inj, bZ_t, bZ_f, nr_i, nr_0, nr_1, nr_b, ft_i, ft_b, ft_0, ft_1, zl_0, zl_1, zl_65, zl_90, l0, hD, hX, e1, b1, k1, pO, -List.filter_filter, -List.getElem?_map, -List.getD_eq_getElem?_getD]
    · by_cases k2 : 90 < c'
      · rw [decide_eq_false (by omega), bZ_f]
        simp (disch := first | (refine c1_id ?_; assumption) | (refine c1_st rfl ?_; repeat (first | assumption | refine c1_st rfl ?_)) | omega) [nx_l, nx_r, nx_n, x_st, x_push, x_bin, x_div, x_un, x_dup, x_pop, x_dup2, x_goto, x_ifeq, x_ifne, x_iflt, x_ifge, x_ifgt, x_ifle, x_iceq, x_icne, x_iclt, x_icge, x_icgt, x_icle, x_ifnull, x_ifnonnull, x_ldi, x_lda, x_sti, x_sta, x_iinc, x_gf, x_pf, x_ald, x_ast, x_aln, x_len, x_cl_, x_cv, x_cs, x_rc, x_r0, x_isT, x_oi, x_rv, x_ri, x_ra, Value.category, t32_0, t32_1, t32_4, t32_5, t32_8, t32_11, t32_12, t32_15, t32_16, t32_19, t32_20, t32_22, t32_25, t32_26, t32_29, t32_30, t32_33, t32_34, t32_36, t32_39, t32_40, t32_43, t32_44, lk_s, hp_get, hp_set, uH_at, uH_ne, uH_upd, uH_swap, iZ_add, iZ_sub, iZ_mul, iZ_neg, iZ_lt, iZ_le, iZ_eq, iZ_div, iZ_of, ix_Z, gZ_map, gZ_mapI, gZ_map', le_0, le_s, sZ_map, sZ_len, bZ_0, bZ_inj, bZ_t, bZ_f, nr_i, nr_0, nr_1, nr_b, ft_i, ft_b, ft_0, ft_1, zl_0, zl_1, zl_65, zl_90, l0, hD, hX, e1, b1, k1, k2, pO, -List.filter_filter, -List.getElem?_map, -List.getD_eq_getElem?_getD]
      · rw [decide_eq_true (by omega), bZ_t]
        simp (disch := first | (refine c1_id ?_; assumption) | (refine c1_st rfl ?_; repeat (first | assumption | refine c1_st rfl ?_)) | omega) [nx_l, nx_r, nx_n, x_st, x_push, x_bin, x_div, x_un, x_dup, x_pop, x_dup2, x_goto, x_ifeq, x_ifne, x_iflt, x_ifge, x_ifgt, x_ifle, x_iceq, x_icne, x_iclt, x_icge, x_icgt, x_icle, x_ifnull, x_ifnonnull, x_ldi, x_lda, x_sti, x_sta, x_iinc, x_gf, x_pf, x_ald, x_ast, x_aln, x_len, x_cl_, x_cv, x_cs, x_rc, x_r0, x_isT, x_oi, x_rv, x_ri, x_ra, Value.category, t32_0, t32_1, t32_4, t32_5, t32_8, t32_11, t32_12, t32_15, t32_16, t32_19, t32_20, t32_22, t32_25, t32_26, t32_29, t32_30, t32_33, t32_34, t32_36, t32_39, t32_40, t32_43, t32_44, lk_s, hp_get, hp_set, uH_at, uH_ne, uH_upd, uH_swap, iZ_add, iZ_sub, iZ_mul, iZ_neg, iZ_lt, iZ_le, iZ_eq, iZ_div, iZ_of, ix_Z, gZ_map, gZ_mapI, gZ_map', le_0, le_s, sZ_map, sZ_len, bZ_0, bZ_inj, bZ_t, bZ_f, nr_i, nr_0, nr_1, nr_b, ft_i, ft_b, ft_0, ft_1, zl_0, zl_1, zl_65, zl_90, l0, hD, hX, e1, b1, k1, k2, pO, -List.filter_filter, -List.getElem?_map, -List.getD_eq_getElem?_getD]
theorem l31 (d : Nat) (hN : 53 ≤ N) {p0 : Int} (hD : w 1 = pO p0 l) (hX : w 2 = cI 2 Tx) : ∀ (r : List Int) (p : Int) (lv : xL), DX Tx l p r → c1 lv → x_lk lv 0 = some (.ref 4) → x_lk lv 1 = some (.int (iZ p)) → Gx q_k31 d 5 (lv, [], hp w N) (some (.int (iZ (bZ (eqA r)))), hp w N)
  | [], p, lv, h, hc, l0, l1 => by
    obtain ⟨e1, e2, e3⟩ := h.nil
    have b1 : l ≤ p := by omega
    refine Gx.fin 40 Cs.tt (fun X _ => ?_)
    have eU : eqA [] = false := rfl
    rw [eU, bZ_f]
    simp (disch := first | (refine c1_id ?_; assumption) | (refine c1_st rfl ?_; repeat (first | assumption | refine c1_st rfl ?_)) | omega) [nx_l, nx_r, nx_n, x_st, x_push, x_bin, x_div, x_un, x_dup, x_pop, x_dup2, x_goto, x_ifeq, x_ifne, x_iflt, x_ifge, x_ifgt, x_ifle, x_iceq, x_icne, x_iclt, x_icge, x_icgt, x_icle, x_ifnull, x_ifnonnull, x_ldi, x_lda, x_sti, x_sta, x_iinc, x_gf, x_pf, x_ald, x_ast, x_aln, x_len, x_cl_, x_cv, x_cs, x_rc, x_r0, x_isT, x_oi, x_rv, x_ri, x_ra, Value.category, t31_0, t31_1, t31_4, t31_5, t31_6, t31_7, t31_10, t31_13, t31_14, t31_17, t31_18, t31_19, t31_21, t31_24, t31_25, t31_28, t31_29, t31_30, t31_32, t31_35, t31_36, t31_37, t31_40, t31_43, t31_44, lk_s, hp_get, hp_set, uH_at, uH_ne, uH_upd, uH_swap, iZ_add, iZ_sub, iZ_mul, iZ_neg, iZ_lt, iZ_le, iZ_eq, iZ_div, iZ_of, ix_Z, gZ_map, gZ_mapI, gZ_map', le_0, le_s, sZ_map, sZ_len, bZ_0, bZ_inj, bZ_t, bZ_f, nr_i, nr_0, nr_1, nr_b, ft_i, ft_b, ft_0, ft_1, zl_0, zl_1, zl_61, zl_124, l0, l1, hD, hX, b1, pO, -List.filter_filter, -List.getElem?_map, -List.getD_eq_getElem?_getD]
  | c :: r, p, lv, h, hc, l0, l1 => by
    obtain ⟨e1, e2, e3, e4, e5, e6, e7⟩ := h.hd
    have b1 : ¬ l ≤ p := by omega
    show Gx q_k31 d 5 _ (some (.int (iZ (bZ (if c = 124 then false else if c = 61 then true else eqA r)))), _)
    by_cases k1 : c = 124
    · rw [if_pos k1, bZ_f]
      refine Gx.fin 40 Cs.tt (fun X _ => ?_)
      simp (disch := first | (refine c1_id ?_; assumption) | (refine c1_st rfl ?_; repeat (first | assumption | refine c1_st rfl ?_)) | omega) [nx_l, nx_r, nx_n, x_st, x_push, x_bin, x_div, x_un, x_dup, x_pop, x_dup2, x_goto, x_ifeq, x_ifne, x_iflt, x_ifge, x_ifgt, x_ifle, x_iceq, x_icne, x_iclt, x_icge, x_icgt, x_icle, x_ifnull, x_ifnonnull, x_ldi, x_lda, x_sti, x_sta, x_iinc, x_gf, x_pf, x_ald, x_ast, x_aln, x_len, x_cl_, x_cv, x_cs, x_rc, x_r0, x_isT, x_oi, x_rv, x_ri, x_ra, Value.category, t31_0, t31_1, t31_4, t31_5, t31_6, t31_7, t31_10, t31_13, t31_14, t31_17, t31_18, t31_19, t31_21, t31_24, t31_25, t31_28, t31_29, t31_30, t31_32, t31_35, t31_36, t31_37, t31_40, t31_43, t31_44, lk_s, hp_get, hp_set, uH_at, uH_ne, uH_upd, uH_swap, iZ_add, iZ_sub, iZ_mul, iZ_neg, iZ_lt, iZ_le, iZ_eq, iZ_div, iZ_of, ix_Z, gZ_map, gZ_mapI, gZ_map', le_0, le_s, sZ_map, sZ_len, bZ_0, bZ_inj, bZ_t, bZ_f, nr_i, nr_0, nr_1, nr_b, ft_i, ft_b, ft_0, ft_1, zl_0, zl_1, zl_61, zl_124, l0, l1, hD, hX, e1, b1, k1, pO, -List.filter_filter, -List.getElem?_map, -List.getD_eq_getElem?_getD]
    · rw [if_neg k1]
      by_cases k2 : c = 61
      · rw [if_pos k2, bZ_t]
        refine Gx.fin 40 Cs.tt (fun X _ => ?_)
        simp (disch := first | (refine c1_id ?_; assumption) | (refine c1_st rfl ?_; repeat (first | assumption | refine c1_st rfl ?_)) | omega) [nx_l, nx_r, nx_n, x_st, x_push, x_bin, x_div, x_un, x_dup, x_pop, x_dup2, x_goto, x_ifeq, x_ifne, x_iflt, x_ifge, x_ifgt, x_ifle, x_iceq, x_icne, x_iclt, x_icge, x_icgt, x_icle, x_ifnull, x_ifnonnull, x_ldi, x_lda, x_sti, x_sta, x_iinc, x_gf, x_pf, x_ald, x_ast, x_aln, x_len, x_cl_, x_cv, x_cs, x_rc, x_r0, x_isT, x_oi, x_rv, x_ri, x_ra, Value.category, t31_0, t31_1, t31_4, t31_5, t31_6, t31_7, t31_10, t31_13, t31_14, t31_17, t31_18, t31_19, t31_21, t31_24, t31_25, t31_28, t31_29, t31_30, t31_32, t31_35, t31_36, t31_37, t31_40, t31_43, t31_44, lk_s, hp_get, hp_set, uH_at, uH_ne, uH_upd, uH_swap, iZ_add, iZ_sub, iZ_mul, iZ_neg, iZ_lt, iZ_le, iZ_eq, iZ_div, iZ_of, ix_Z, gZ_map, gZ_mapI, gZ_map', le_0, le_s, sZ_map, sZ_len, bZ_0, bZ_inj, bZ_t, bZ_f, nr_i, nr_0, nr_1, nr_b, ft_i, ft_b, ft_0, ft_1, zl_0, zl_1, zl_61, zl_124, l0, l1, hD, hX, e1, b1, k1, k2, pO, -List.filter_filter, -List.getElem?_map, -List.getD_eq_getElem?_getD]
      · rw [if_neg k2]
        have C1 := c1_st (i := 1) (v := .int (iZ (p + 1))) rfl hc
        refine Gx.run 40 Cs.tt (fun X _ => ?_) (l31 d hN hD hX r (p + 1) ((1, .int (iZ (p + 1))) :: lv.filter (x_keep 1)) h.tl C1 (by rw [lk_s hc]; exact l0) (by rw [lk_s hc]; rfl))
        simp (disch := first | (refine c1_id ?_; assumption) | (refine c1_st rfl ?_; repeat (first | assumption | refine c1_st rfl ?_)) | omega) [nx_l, nx_r, nx_n, x_st, x_push, x_bin, x_div, x_un, x_dup, x_pop, x_dup2, x_goto, x_ifeq, x_ifne, x_iflt, x_ifge, x_ifgt, x_ifle, x_iceq, x_icne, x_iclt, x_icge, x_icgt, x_icle, x_ifnull, x_ifnonnull, x_ldi, x_lda, x_sti, x_sta, x_iinc, x_gf, x_pf, x_ald, x_ast, x_aln, x_len, x_cl_, x_cv, x_cs, x_rc, x_r0, x_isT, x_oi, x_rv, x_ri, x_ra, Value.category, t31_0, t31_1, t31_4, t31_5, t31_6, t31_7, t31_10, t31_13, t31_14, t31_17, t31_18, t31_19, t31_21, t31_24, t31_25, t31_28, t31_29, t31_30, t31_32, t31_35, t31_36, t31_37, t31_40, t31_43, t31_44, lk_s, hp_get, hp_set, uH_at, uH_ne, uH_upd, uH_swap, iZ_add, iZ_sub, iZ_mul, iZ_neg, iZ_lt, iZ_le, iZ_eq, iZ_div, iZ_of, ix_Z, gZ_map, gZ_mapI, gZ_map', le_0, le_s, sZ_map, sZ_len, bZ_0, bZ_inj, bZ_t, bZ_f, nr_i, nr_0, nr_1, nr_b, ft_i, ft_b, ft_0, ft_1, zl_0, zl_1, zl_61, zl_124, l0, l1, hD, hX, e1, b1, k1, k2, pO, -List.filter_filter, -List.getElem?_map, -List.getD_eq_getElem?_getD]
theorem m31 (d : Nat) (hN : 53 ≤ N) (hD : w 1 = pO p l) (hX : w 2 = cI 2 Tx) (h : DX Tx l p r) : Xc (d + 1) 31 [.ref 4] (hp w N) (some (.int (iZ (bZ (eqA r)))), hp w N) := by
  refine Xc.of rfl (by simp [lg_sl, Value.category]) ?_ (x_le.rf)
  have hc : c1 (lv_args 0 [.ref 4]) := by simp [c1, lv_args, Value.category]
  have l0 : x_lk (lv_args 0 [.ref 4]) 0 = some (.ref 4) := rfl
  generalize lv_args 0 [.ref 4] = lv at hc l0
  have C1 := c1_st (i := 1) (v := .int (iZ p)) rfl hc
  refine Gx.run 40 Cs.tt (fun X _ => ?_) (l31 d hN hD hX r p ((1, .int (iZ p)) :: lv.filter (x_keep 1)) h C1 (by rw [lk_s hc]; exact l0) (by rw [lk_s hc]; rfl))
  simp (disch := first | (refine c1_id ?_; assumption) | (refine c1_st rfl ?_; repeat (first | assumption | refine c1_st rfl ?_)) | omega) [nx_l, nx_r, nx_n, x_st, x_push, x_bin, x_div, x_un, x_dup, x_pop, x_dup2, x_goto, x_ifeq, x_ifne, x_iflt, x_ifge, x_ifgt, x_ifle, x_iceq, x_icne, x_iclt, x_icge, x_icgt, x_icle, x_ifnull, x_ifnonnull, x_ldi, x_lda, x_sti, x_sta, x_iinc, x_gf, x_pf, x_ald, x_ast, x_aln, x_len, x_cl_, x_cv, x_cs, x_rc, x_r0, x_isT, x_oi, x_rv, x_ri, x_ra, Value.category, t31_0, t31_1, t31_4, t31_5, t31_6, t31_7, t31_10, t31_13, t31_14, t31_17, t31_18, t31_19, t31_21, t31_24, t31_25, t31_28, t31_29, t31_30, t31_32, t31_35, t31_36, t31_37, t31_40, t31_43, t31_44, lk_s, hp_get, hp_set, uH_at, uH_ne, uH_upd, uH_swap, iZ_add, iZ_sub, iZ_mul, iZ_neg, iZ_lt, iZ_le, iZ_eq, iZ_div, iZ_of, ix_Z, gZ_map, gZ_mapI, gZ_map', le_0, le_s, sZ_map, sZ_len, bZ_0, bZ_inj, bZ_t, bZ_f, nr_i, nr_0, nr_1, nr_b, ft_i, ft_b, ft_0, ft_1, zl_0, zl_1, zl_61, zl_124, l0, hD, pO, -List.filter_filter, -List.getElem?_map, -List.getD_eq_getElem?_getD]
end DR0
section DR1
variable {w : Nat → xC} {N a : Nat} {C : List (Int × List Int)} {b : Int} {t : List Int}
/-- a sign is put -/
theorem LQ.put (d : Nat) (hN : a + 3 < N) (h : LQ w a C b t) (s : Int) (hs : sgV s) (h4 : t.length < 40) : ∃ w', Fr [a, a + 1] w w' ∧ LQ w' a C b (t ++ [s]) ∧ Xc (d + 1) 16 [.ref (a + 3), .int (iZ (vc s))] (hp w N) (some (.int (iZ 1)), hp w' N) := by
  obtain ⟨S, E, B, h1, h2, h3, h4', h5, h6, h7, h8, h9, h10, h11, h12⟩ := h
  have X := m16 (w := w) (a := a) (N := N) d (vc s) h1 ⟨hN, by omega, by omega, by omega⟩ (by omega) (by omega) (by omega) (by omega)
  rw [if_pos (by unfold puL; simp; omega)] at X
  refine ⟨_, ((Fr.rf _ _).up (by simp)).up (by simp), ⟨sZ S ((flt C).length + t.length) (vc s), E, B, ⟨?_, uH_at _ _ _, ?_, ?_⟩, by rw [sZ_len]; exact h2, h3, h4', ⟨fun j hj => ?_, h5.2.1, h5.2.2⟩, h6, h7, fun j hj => ?_, by rw [List.length_append, List.length_singleton]; omega, h10, h11, fun z hz => ?_⟩, X⟩
  · rw [uH_ne (by omega), uH_at, List.length_append, List.length_singleton]
    unfold fC
    rw [show ((flt C).length : Int) + ((t.length + 1 : Nat) : Int) = (flt C).length + t.length + 1 by omega]
  · rw [uH_ne (by omega), uH_ne (by omega)]
    exact h1.2.2.1
  · rw [uH_ne (by omega), uH_ne (by omega)]
    exact h1.2.2.2
  · rw [gZ_sZ (by omega) (by omega) (by omega), if_neg (by omega)]
    exact h5.1 j hj
  · rw [List.length_append, List.length_singleton] at hj
    rw [gZ_sZ (by omega) (by omega) (by omega)]
    by_cases e : j = t.length
    · rw [if_pos (by omega), e]
      congr 1
      rw [List.getD_eq_getElem?_getD, List.getElem?_append_right (by omega), Nat.sub_self]
      rfl
    · rw [if_neg (by omega), h8 j (by omega)]
      congr 1
      rw [List.getD_eq_getElem?_getD, List.getD_eq_getElem?_getD, List.getElem?_append_left (by omega)]
  · rcases List.mem_append.mp hz with hz | hz
    · exact h12 z hz
    · rw [List.mem_singleton] at hz
      rw [hz]
      exact hs
theorem LQ.full (d : Nat) (hN : a + 3 < N) (h : LQ w a C b t) (v : Int) (h4 : ¬ t.length < 40) : Xc (d + 1) 16 [.ref (a + 3), .int (iZ v)] (hp w N) (some (.int (iZ 0)), hp w N) := by
  obtain ⟨S, E, B, h1, h2, h3, h4', h5, h6, h7, h8, h9, h10, h11, h12⟩ := h
  have X := m16 (w := w) (a := a) (N := N) d v h1 ⟨hN, by omega, by omega, by omega⟩ (by omega) (by omega) (by omega) (by omega)
  rw [if_neg (by unfold puL; simp; omega)] at X
  exact X
/-- the sign of a function gets its number of terms -/
theorem LQ.set {s s' : Int} {ts : List Int} (h : LQ w a C b (t ++ s :: ts)) (hs : sgV s') : ∃ S E B : List Int, fo w a S E B C.length ((flt C).length + (t ++ s :: ts).length) (flt C).length ∧ S.length = 80 ∧ (flt C).length + t.length < 80 ∧ LQ (uH w (a + 1) (cI 0 (sZ S ((flt C).length + t.length) (vc s')))) a C b (t ++ s' :: ts) := by
  obtain ⟨S, E, B, h1, h2, h3, h4', h5, h6, h7, h8, h9, h10, h11, h12⟩ := h
  have hl : (t ++ s' :: ts).length = (t ++ s :: ts).length := by simp
  have h9' : t.length + (ts.length + 1) ≤ 40 := by simpa using h9
  refine ⟨S, E, B, h1, h2, by omega, ⟨sZ S ((flt C).length + t.length) (vc s'), E, B, ⟨?_, uH_at _ _ _, ?_, ?_⟩, by rw [sZ_len]; exact h2, h3, h4', ⟨fun j hj => ?_, h5.2.1, h5.2.2⟩, h6, h7, fun j hj => ?_, by rw [hl]; exact h9, h10, h11, fun z hz => ?_⟩⟩
  · rw [uH_ne (by omega), hl]
    exact h1.1
  · rw [uH_ne (by omega)]
    exact h1.2.2.1
  · rw [uH_ne (by omega)]
    exact h1.2.2.2
  · rw [gZ_sZ (by omega) (by omega) (by omega), if_neg (by omega)]
    exact h5.1 j hj
  · rw [hl] at hj
    rw [gZ_sZ (by omega) (by omega) (by omega)]
    by_cases e : j = t.length
    · rw [if_pos (by omega), e]
      congr 1
      rw [List.getD_eq_getElem?_getD, List.getElem?_append_right (by omega), Nat.sub_self]
      rfl
    · rw [if_neg (by omega), h8 j hj]
      congr 1
      rw [List.getD_eq_getElem?_getD, List.getD_eq_getElem?_getD]
      by_cases hj2 : j < t.length
      · rw [List.getElem?_append_left hj2, List.getElem?_append_left hj2]
      · rw [List.getElem?_append_right (by omega), List.getElem?_append_right (by omega)]
        obtain ⟨i, hi⟩ : ∃ i, j - t.length = i + 1 := ⟨j - t.length - 1, by omega⟩
        rw [hi]
        rfl
  · rcases List.mem_append.mp hz with hz | hz
    · exact h12 z (List.mem_append_left _ hz)
    · rcases List.mem_cons.mp hz with hz | hz
      · rw [hz]
        exact hs
      · exact h12 z (List.mem_append_right _ (List.mem_cons_of_mem _ hz))
/-- a literal is opened -/
theorem LA.lq (d : Nat) (hN : a + 3 < N) (h : LA w a C) {b : Int} (hb : b = 0 ∨ b = 1) : ∃ w', Fr [a, a + 3] w w' ∧ LQ w' a C b [] ∧ Xc (d + 1) 15 [.ref (a + 3), .int (iZ b)] (hp w N) (none, hp w' N) := by
  obtain ⟨S, E, B, o, hf, nS, lE, lB, hW, hg, f40, c6⟩ := h
  have X := m15 (w := w) (a := a) (N := N) d (decide (b = 1)) hf ⟨by omega, by omega, by omega, by omega⟩ (by omega) (by omega)
  rw [← bZ_01 hb] at X
  obtain ⟨fa, fs, fe, fg⟩ := hf
  refine ⟨_, ((Fr.rf _ _).up (by simp)).up (by simp), ⟨S, E, sZ B C.length b, ⟨?_, ?_, ?_, ?_⟩, nS, lE, by rw [sZ_len]; exact lB, ⟨hW.1, hW.2.1, fun k hk => ?_⟩, hg, ?_, fun j hj => absurd hj (Nat.not_lt_zero _), by simp, f40, c6, fun s hs => by cases hs⟩, X⟩
  · rw [uH_ne (by omega), uH_at]
    simp [fC]
  · rw [uH_ne (by omega), uH_ne (by omega)]
    exact fs
  · rw [uH_ne (by omega), uH_ne (by omega)]
    exact fe
  · exact uH_at _ _ _
  · rw [gZ_sZ (by omega) (by omega) (by omega), if_neg (by omega)]
    exact hW.2.2 k hk
  · rw [gZ_sZ (by omega) (by omega) (by omega), if_pos rfl]
/-- a literal is closed -/
theorem LQ.close (d : Nat) (hN : a + 3 < N) (h : LQ w a C b t) (hb : b = 0 ∨ b = 1) :
    ((b, t) ∈ C ∨ (C.length + 1 ≤ 6 ∧ (flt C).length + t.length ≤ 40) → ∃ w', Fr [a, a + 2] w w' ∧ LA w' a (adL C (b, t)) ∧ Xc (d + 3) 17 [.ref (a + 3)] (hp w N) (some (.int (iZ 1)), hp w' N)) ∧
    (¬ ((b, t) ∈ C ∨ (C.length + 1 ≤ 6 ∧ (flt C).length + t.length ≤ 40)) → ∃ w', Fr [a, a + 2] w w' ∧ JK w' a ∧ Xc (d + 3) 17 [.ref (a + 3)] (hp w N) (some (.int (iZ 0)), hp w' N)) := by
  obtain ⟨S, E, B, hf, nS, lE, lB, hW, hg, hB, ht, t40, f40, c6, hsg⟩ := h
  have hg2 : gV (C ++ [(b, t)]) := fun y hy => by
    rcases List.mem_append.mp hy with hy | hy
    · exact hg y hy
    · rw [List.mem_singleton] at hy
      rw [hy]
      exact ⟨hb, hsg⟩
  obtain ⟨E', e1, e2, X⟩ := m17 (w := w) (a := a) (N := N) (x := (b, t)) d hf ⟨by omega, by omega, by omega, by omega⟩ hW hg2 ht hB rfl rfl (by omega) lE lB c6
  obtain ⟨fa, fs, fe, fg⟩ := hf
  obtain ⟨w', hw'⟩ : ∃ w', w' = uH (uH w a (fC a (adL C (b, t)).length (flt (adL C (b, t))).length (flt C).length)) (a + 2) (cI 0 E') := ⟨_, rfl⟩
  have X' : Xc (d + 3) 17 [.ref (a + 3)] (hp w N) (some (.int (iZ (bZ (decide ((b, t) ∈ C ∨ (C.length + 1 ≤ 6 ∧ ((flt C).length : Int) + t.length ≤ 40)))))), hp w' N) := by rw [hw']; exact X
  have F : Fr [a, a + 2] w w' := by rw [hw']; exact ((Fr.rf _ _).up (by simp)).up (by simp)
  have hf' : fo w' a S E' B (adL C (b, t)).length (flt (adL C (b, t))).length (flt C).length := by
    rw [hw']
    refine ⟨?_, ?_, ?_, ?_⟩
    · rw [uH_ne (by omega), uH_at]
      simp [fC]
    · rw [uH_ne (by omega), uH_ne (by omega)]
      exact fs
    · exact uH_at _ _ _
    · rw [uH_ne (by omega), uH_ne (by omega)]
      exact fg
  have hgA : gV (adL C (b, t)) := by
    unfold adL
    split
    · exact hg
    · exact hg2
  refine ⟨fun h => ⟨w', F, ⟨S, E', B, _, hf', nS, e1, lB, e2, hgA, ?_⟩, ?_⟩, fun h => ⟨w', F, ⟨S, E', B, _, _, flt (adL C (b, t)), hf', nS, e1, lB, ?_, fun s hs => ?_, e2.1⟩, ?_⟩⟩
  · unfold adL
    by_cases hm : (b, t) ∈ C
    · rw [if_pos hm]
      exact ⟨f40, c6⟩
    · rw [if_neg hm]
      rcases h with h | h
      · exact absurd h hm
      · rw [flt_app, List.length_append, List.length_append]
        have : flt [(b, t)] = t := by simp [flt]
        rw [this]
        simp only [List.length_singleton]
        omega
  · rw [decide_eq_true (by rcases h with h | h; exact Or.inl h; exact Or.inr (by omega)), bZ_t] at X'
    exact X'
  · unfold adL
    split
    · omega
    · rw [flt_app, List.length_append]
      have : flt [(b, t)] = t := by simp [flt]
      rw [this]
      omega
  · obtain ⟨y, hy, hz⟩ := flt_of hs
    exact (hgA y hy).2 s hz
  · rw [decide_eq_false (fun z => h (by rcases z with z | z; exact Or.inl z; exact Or.inr (by omega))), bZ_f] at X'
    exact X'
end DR1
