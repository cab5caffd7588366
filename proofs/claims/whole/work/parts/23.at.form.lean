/-! what stands at each place: the symbols and forms -/
theorem f0_0 : x_fetch q_k0 0 = x_st (x_push 1 (.int (4))) := rfl
theorem t0_0 (C : xF) (s n : Nat) (z : xS) : x_to q_k0 C s (n + 1) 0 z = x_nx q_k0 C s n ((x_st (x_push 1 (.int (4)))) C z) := x_to_at f0_0 C s n z
theorem f0_1 : x_fetch q_k0 1 = x_ldi 2 0 := rfl
theorem t0_1 (C : xF) (s n : Nat) (z : xS) : x_to q_k0 C s (n + 1) 1 z = x_nx q_k0 C s n ((x_ldi 2 0) C z) := x_to_at f0_1 C s n z
theorem f0_2 : x_fetch q_k0 2 = x_st (x_push 4 (.int (97))) := rfl
theorem t0_2 (C : xF) (s n : Nat) (z : xS) : x_to q_k0 C s (n + 1) 2 z = x_nx q_k0 C s n ((x_st (x_push 4 (.int (97)))) C z) := x_to_at f0_2 C s n z
theorem f0_4 : x_fetch q_k0 4 = x_st (x_bin 5 (fun a b => a - b)) := rfl
theorem t0_4 (C : xF) (s n : Nat) (z : xS) : x_to q_k0 C s (n + 1) 4 z = x_nx q_k0 C s n ((x_st (x_bin 5 (fun a b => a - b))) C z) := x_to_at f0_4 C s n z
theorem f0_5 : x_fetch q_k0 5 = x_st (x_bin 6 (fun a b => a * b)) := rfl
theorem t0_5 (C : xF) (s n : Nat) (z : xS) : x_to q_k0 C s (n + 1) 5 z = x_nx q_k0 C s n ((x_st (x_bin 6 (fun a b => a * b))) C z) := x_to_at f0_5 C s n z
theorem f0_6 : x_fetch q_k0 6 = x_ldi 7 1 := rfl
theorem t0_6 (C : xF) (s n : Nat) (z : xS) : x_to q_k0 C s (n + 1) 6 z = x_nx q_k0 C s n ((x_ldi 7 1) C z) := x_to_at f0_6 C s n z
theorem f0_7 : x_fetch q_k0 7 = x_st (x_bin 8 (fun a b => a + b)) := rfl
theorem t0_7 (C : xF) (s n : Nat) (z : xS) : x_to q_k0 C s (n + 1) 7 z = x_nx q_k0 C s n ((x_st (x_bin 8 (fun a b => a + b))) C z) := x_to_at f0_7 C s n z
theorem f0_8 : x_fetch q_k0 8 = x_ri (.int) := rfl
theorem t0_8 (C : xF) (s n : Nat) (z : xS) : x_to q_k0 C s (n + 1) 8 z = x_nx q_k0 C s n ((x_ri (.int)) C z) := x_to_at f0_8 C s n z
theorem f1_0 : x_fetch q_k1 0 = x_st (x_push 3 (.int (128))) := rfl
theorem t1_0 (C : xF) (s n : Nat) (z : xS) : x_to q_k1 C s (n + 1) 0 z = x_nx q_k1 C s n ((x_st (x_push 3 (.int (128)))) C z) := x_to_at f1_0 C s n z
theorem f1_3 : x_fetch q_k1 3 = x_st (x_push 4 (.int (4))) := rfl
theorem t1_3 (C : xF) (s n : Nat) (z : xS) : x_to q_k1 C s (n + 1) 3 z = x_nx q_k1 C s n ((x_st (x_push 4 (.int (4)))) C z) := x_to_at f1_3 C s n z
theorem f1_4 : x_fetch q_k1 4 = x_ldi 5 0 := rfl
theorem t1_4 (C : xF) (s n : Nat) (z : xS) : x_to q_k1 C s (n + 1) 4 z = x_nx q_k1 C s n ((x_ldi 5 0) C z) := x_to_at f1_4 C s n z
theorem f1_5 : x_fetch q_k1 5 = x_st (x_bin 6 (fun a b => a * b)) := rfl
theorem t1_5 (C : xF) (s n : Nat) (z : xS) : x_to q_k1 C s (n + 1) 5 z = x_nx q_k1 C s n ((x_st (x_bin 6 (fun a b => a * b))) C z) := x_to_at f1_5 C s n z
theorem f1_6 : x_fetch q_k1 6 = x_st (x_bin 7 (fun a b => a + b)) := rfl
theorem t1_6 (C : xF) (s n : Nat) (z : xS) : x_to q_k1 C s (n + 1) 6 z = x_nx q_k1 C s n ((x_st (x_bin 7 (fun a b => a + b))) C z) := x_to_at f1_6 C s n z
theorem f1_7 : x_fetch q_k1 7 = x_ri (.int) := rfl
theorem t1_7 (C : xF) (s n : Nat) (z : xS) : x_to q_k1 C s (n + 1) 7 z = x_nx q_k1 C s n ((x_ri (.int)) C z) := x_to_at f1_7 C s n z
theorem f2_0 : x_fetch q_k2 0 = x_ldi 1 0 := rfl
theorem t2_0 (C : xF) (s n : Nat) (z : xS) : x_to q_k2 C s (n + 1) 0 z = x_nx q_k2 C s n ((x_ldi 1 0) C z) := x_to_at f2_0 C s n z
theorem f2_1 : x_fetch q_k2 1 = x_st (x_push 4 (.int (128))) := rfl
theorem t2_1 (C : xF) (s n : Nat) (z : xS) : x_to q_k2 C s (n + 1) 1 z = x_nx q_k2 C s n ((x_st (x_push 4 (.int (128)))) C z) := x_to_at f2_1 C s n z
theorem f2_4 : x_fetch q_k2 4 = x_st (x_iclt 11 7) := rfl
theorem t2_4 (C : xF) (s n : Nat) (z : xS) : x_to q_k2 C s (n + 1) 4 z = x_nx q_k2 C s n ((x_st (x_iclt 11 7)) C z) := x_to_at f2_4 C s n z
theorem f2_7 : x_fetch q_k2 7 = x_st (x_push 8 (.int (1))) := rfl
theorem t2_7 (C : xF) (s n : Nat) (z : xS) : x_to q_k2 C s (n + 1) 7 z = x_nx q_k2 C s n ((x_st (x_push 8 (.int (1)))) C z) := x_to_at f2_7 C s n z
theorem f2_8 : x_fetch q_k2 8 = x_st (x_goto 12) := rfl
theorem t2_8 (C : xF) (s n : Nat) (z : xS) : x_to q_k2 C s (n + 1) 8 z = x_nx q_k2 C s n ((x_st (x_goto 12)) C z) := x_to_at f2_8 C s n z
theorem f2_11 : x_fetch q_k2 11 = x_st (x_push 12 (.int (0))) := rfl
theorem t2_11 (C : xF) (s n : Nat) (z : xS) : x_to q_k2 C s (n + 1) 11 z = x_nx q_k2 C s n ((x_st (x_push 12 (.int (0)))) C z) := x_to_at f2_11 C s n z
theorem f2_12 : x_fetch q_k2 12 = x_ri (.boolean) := rfl
theorem t2_12 (C : xF) (s n : Nat) (z : xS) : x_to q_k2 C s (n + 1) 12 z = x_nx q_k2 C s n ((x_ri (.boolean)) C z) := x_to_at f2_12 C s n z
theorem f3_0 : x_fetch q_k3 0 = x_ldi 1 0 := rfl
theorem t3_0 (C : xF) (s n : Nat) (z : xS) : x_to q_k3 C s (n + 1) 0 z = x_nx q_k3 C s n ((x_ldi 1 0) C z) := x_to_at f3_0 C s n z
theorem f3_1 : x_fetch q_k3 1 = x_st (x_push 4 (.int (128))) := rfl
theorem t3_1 (C : xF) (s n : Nat) (z : xS) : x_to q_k3 C s (n + 1) 1 z = x_nx q_k3 C s n ((x_st (x_push 4 (.int (128)))) C z) := x_to_at f3_1 C s n z
theorem f3_4 : x_fetch q_k3 4 = x_st (x_bin 5 (fun a b => a - b)) := rfl
theorem t3_4 (C : xF) (s n : Nat) (z : xS) : x_to q_k3 C s (n + 1) 4 z = x_nx q_k3 C s n ((x_st (x_bin 5 (fun a b => a - b))) C z) := x_to_at f3_4 C s n z
theorem f3_5 : x_fetch q_k3 5 = x_st (x_push 6 (.int (4))) := rfl
theorem t3_5 (C : xF) (s n : Nat) (z : xS) : x_to q_k3 C s (n + 1) 5 z = x_nx q_k3 C s n ((x_st (x_push 6 (.int (4)))) C z) := x_to_at f3_5 C s n z
theorem f3_6 : x_fetch q_k3 6 = x_st (x_div 7 (fun a b => a / b)) := rfl
theorem t3_6 (C : xF) (s n : Nat) (z : xS) : x_to q_k3 C s (n + 1) 6 z = x_nx q_k3 C s n ((x_st (x_div 7 (fun a b => a / b))) C z) := x_to_at f3_6 C s n z
theorem f3_7 : x_fetch q_k3 7 = x_ri (.int) := rfl
theorem t3_7 (C : xF) (s n : Nat) (z : xS) : x_to q_k3 C s (n + 1) 7 z = x_nx q_k3 C s n ((x_ri (.int)) C z) := x_to_at f3_7 C s n z
theorem f4_0 : x_fetch q_k4 0 = x_ldi 1 0 := rfl
theorem t4_0 (C : xF) (s n : Nat) (z : xS) : x_to q_k4 C s (n + 1) 0 z = x_nx q_k4 C s n ((x_ldi 1 0) C z) := x_to_at f4_0 C s n z
theorem f4_1 : x_fetch q_k4 1 = x_st (x_push 2 (.int (4))) := rfl
theorem t4_1 (C : xF) (s n : Nat) (z : xS) : x_to q_k4 C s (n + 1) 1 z = x_nx q_k4 C s n ((x_st (x_push 2 (.int (4)))) C z) := x_to_at f4_1 C s n z
theorem f4_2 : x_fetch q_k4 2 = x_st (x_div 3 (fun a b => a / b)) := rfl
theorem t4_2 (C : xF) (s n : Nat) (z : xS) : x_to q_k4 C s (n + 1) 2 z = x_nx q_k4 C s n ((x_st (x_div 3 (fun a b => a / b))) C z) := x_to_at f4_2 C s n z
theorem f4_3 : x_fetch q_k4 3 = x_ri (.int) := rfl
theorem t4_3 (C : xF) (s n : Nat) (z : xS) : x_to q_k4 C s (n + 1) 3 z = x_nx q_k4 C s n ((x_ri (.int)) C z) := x_to_at f4_3 C s n z
theorem f5_0 : x_fetch q_k5 0 = x_ldi 1 0 := rfl
theorem t5_0 (C : xF) (s n : Nat) (z : xS) : x_to q_k5 C s (n + 1) 0 z = x_nx q_k5 C s n ((x_ldi 1 0) C z) := x_to_at f5_0 C s n z
theorem f5_1 : x_fetch q_k5 1 = x_st (x_push 2 (.int (4))) := rfl
theorem t5_1 (C : xF) (s n : Nat) (z : xS) : x_to q_k5 C s (n + 1) 1 z = x_nx q_k5 C s n ((x_st (x_push 2 (.int (4)))) C z) := x_to_at f5_1 C s n z
theorem f5_2 : x_fetch q_k5 2 = x_st (x_div 3 (fun a b => a - a / b * b)) := rfl
theorem t5_2 (C : xF) (s n : Nat) (z : xS) : x_to q_k5 C s (n + 1) 2 z = x_nx q_k5 C s n ((x_st (x_div 3 (fun a b => a - a / b * b))) C z) := x_to_at f5_2 C s n z
theorem f5_3 : x_fetch q_k5 3 = x_ri (.int) := rfl
theorem t5_3 (C : xF) (s n : Nat) (z : xS) : x_to q_k5 C s (n + 1) 3 z = x_nx q_k5 C s n ((x_ri (.int)) C z) := x_to_at f5_3 C s n z
theorem f6_0 : x_fetch q_k6 0 = x_ldi 1 0 := rfl
theorem t6_0 (C : xF) (s n : Nat) (z : xS) : x_to q_k6 C s (n + 1) 0 z = x_nx q_k6 C s n ((x_ldi 1 0) C z) := x_to_at f6_0 C s n z
theorem f6_1 : x_fetch q_k6 1 = x_cl_ 4 2 1 := rfl
theorem t6_1 (C : xF) (s n : Nat) (z : xS) : x_to q_k6 C s (n + 1) 1 z = x_nx q_k6 C s n ((x_cl_ 4 2 1) C z) := x_to_at f6_1 C s n z
theorem f6_4 : x_fetch q_k6 4 = x_st (x_ifeq 17 7) := rfl
theorem t6_4 (C : xF) (s n : Nat) (z : xS) : x_to q_k6 C s (n + 1) 4 z = x_nx q_k6 C s n ((x_st (x_ifeq 17 7)) C z) := x_to_at f6_4 C s n z
theorem f6_7 : x_fetch q_k6 7 = x_st (x_push 9 (.int (65))) := rfl
theorem t6_7 (C : xF) (s n : Nat) (z : xS) : x_to q_k6 C s (n + 1) 7 z = x_nx q_k6 C s n ((x_st (x_push 9 (.int (65)))) C z) := x_to_at f6_7 C s n z
theorem f6_9 : x_fetch q_k6 9 = x_ldi 10 0 := rfl
theorem t6_9 (C : xF) (s n : Nat) (z : xS) : x_to q_k6 C s (n + 1) 9 z = x_nx q_k6 C s n ((x_ldi 10 0) C z) := x_to_at f6_9 C s n z
theorem f6_10 : x_fetch q_k6 10 = x_cl_ 13 3 1 := rfl
theorem t6_10 (C : xF) (s n : Nat) (z : xS) : x_to q_k6 C s (n + 1) 10 z = x_nx q_k6 C s n ((x_cl_ 13 3 1) C z) := x_to_at f6_10 C s n z
theorem f6_13 : x_fetch q_k6 13 = x_st (x_bin 14 (fun a b => a + b)) := rfl
theorem t6_13 (C : xF) (s n : Nat) (z : xS) : x_to q_k6 C s (n + 1) 13 z = x_nx q_k6 C s n ((x_st (x_bin 14 (fun a b => a + b))) C z) := x_to_at f6_13 C s n z
theorem f6_14 : x_fetch q_k6 14 = x_st (x_goto 24) := rfl
theorem t6_14 (C : xF) (s n : Nat) (z : xS) : x_to q_k6 C s (n + 1) 14 z = x_nx q_k6 C s n ((x_st (x_goto 24)) C z) := x_to_at f6_14 C s n z
theorem f6_17 : x_fetch q_k6 17 = x_st (x_push 19 (.int (97))) := rfl
theorem t6_17 (C : xF) (s n : Nat) (z : xS) : x_to q_k6 C s (n + 1) 17 z = x_nx q_k6 C s n ((x_st (x_push 19 (.int (97)))) C z) := x_to_at f6_17 C s n z
theorem f6_19 : x_fetch q_k6 19 = x_ldi 20 0 := rfl
theorem t6_19 (C : xF) (s n : Nat) (z : xS) : x_to q_k6 C s (n + 1) 19 z = x_nx q_k6 C s n ((x_ldi 20 0) C z) := x_to_at f6_19 C s n z
theorem f6_20 : x_fetch q_k6 20 = x_cl_ 23 4 1 := rfl
theorem t6_20 (C : xF) (s n : Nat) (z : xS) : x_to q_k6 C s (n + 1) 20 z = x_nx q_k6 C s n ((x_cl_ 23 4 1) C z) := x_to_at f6_20 C s n z
theorem f6_23 : x_fetch q_k6 23 = x_st (x_bin 24 (fun a b => a + b)) := rfl
theorem t6_23 (C : xF) (s n : Nat) (z : xS) : x_to q_k6 C s (n + 1) 23 z = x_nx q_k6 C s n ((x_st (x_bin 24 (fun a b => a + b))) C z) := x_to_at f6_23 C s n z
theorem f6_24 : x_fetch q_k6 24 = x_st (x_un 25 (fun a => .int (a.toUInt32 % 65536).toInt32)) := rfl
theorem t6_24 (C : xF) (s n : Nat) (z : xS) : x_to q_k6 C s (n + 1) 24 z = x_nx q_k6 C s n ((x_st (x_un 25 (fun a => .int (a.toUInt32 % 65536).toInt32))) C z) := x_to_at f6_24 C s n z
theorem f6_25 : x_fetch q_k6 25 = x_ri (.char) := rfl
theorem t6_25 (C : xF) (s n : Nat) (z : xS) : x_to q_k6 C s (n + 1) 25 z = x_nx q_k6 C s n ((x_ri (.char)) C z) := x_to_at f6_25 C s n z
theorem f7_0 : x_fetch q_k7 0 = x_lda 1 0 := rfl
theorem t7_0 (C : xF) (s n : Nat) (z : xS) : x_to q_k7 C s (n + 1) 0 z = x_nx q_k7 C s n ((x_lda 1 0) C z) := x_to_at f7_0 C s n z
theorem f7_1 : x_fetch q_k7 1 = x_st (x_oi 4) := rfl
theorem t7_1 (C : xF) (s n : Nat) (z : xS) : x_to q_k7 C s (n + 1) 1 z = x_nx q_k7 C s n ((x_st (x_oi 4)) C z) := x_to_at f7_1 C s n z
theorem f7_4 : x_fetch q_k7 4 = x_lda 5 0 := rfl
theorem t7_4 (C : xF) (s n : Nat) (z : xS) : x_to q_k7 C s (n + 1) 4 z = x_nx q_k7 C s n ((x_lda 5 0) C z) := x_to_at f7_4 C s n z
theorem f7_5 : x_fetch q_k7 5 = x_lda 6 1 := rfl
theorem t7_5 (C : xF) (s n : Nat) (z : xS) : x_to q_k7 C s (n + 1) 5 z = x_nx q_k7 C s n ((x_lda 6 1) C z) := x_to_at f7_5 C s n z
theorem f7_6 : x_fetch q_k7 6 = x_pf 9 1 0 (.object "ProofDesk$Form") := rfl
theorem t7_6 (C : xF) (s n : Nat) (z : xS) : x_to q_k7 C s (n + 1) 6 z = x_nx q_k7 C s n ((x_pf 9 1 0 (.object "ProofDesk$Form")) C z) := x_to_at f7_6 C s n z
theorem f7_9 : x_fetch q_k7 9 = x_lda 10 0 := rfl
theorem t7_9 (C : xF) (s n : Nat) (z : xS) : x_to q_k7 C s (n + 1) 9 z = x_nx q_k7 C s n ((x_lda 10 0) C z) := x_to_at f7_9 C s n z
theorem f7_10 : x_fetch q_k7 10 = x_ldi 11 2 := rfl
theorem t7_10 (C : xF) (s n : Nat) (z : xS) : x_to q_k7 C s (n + 1) 10 z = x_nx q_k7 C s n ((x_ldi 11 2) C z) := x_to_at f7_10 C s n z
theorem f7_11 : x_fetch q_k7 11 = x_pf 14 1 1 (.int) := rfl
theorem t7_11 (C : xF) (s n : Nat) (z : xS) : x_to q_k7 C s (n + 1) 11 z = x_nx q_k7 C s n ((x_pf 14 1 1 (.int)) C z) := x_to_at f7_11 C s n z
theorem f7_14 : x_fetch q_k7 14 = x_lda 15 0 := rfl
theorem t7_14 (C : xF) (s n : Nat) (z : xS) : x_to q_k7 C s (n + 1) 14 z = x_nx q_k7 C s n ((x_lda 15 0) C z) := x_to_at f7_14 C s n z
theorem f7_15 : x_fetch q_k7 15 = x_ldi 16 3 := rfl
theorem t7_15 (C : xF) (s n : Nat) (z : xS) : x_to q_k7 C s (n + 1) 15 z = x_nx q_k7 C s n ((x_ldi 16 3) C z) := x_to_at f7_15 C s n z
theorem f7_16 : x_fetch q_k7 16 = x_pf 19 1 2 (.int) := rfl
theorem t7_16 (C : xF) (s n : Nat) (z : xS) : x_to q_k7 C s (n + 1) 16 z = x_nx q_k7 C s n ((x_pf 19 1 2 (.int)) C z) := x_to_at f7_16 C s n z
theorem f7_19 : x_fetch q_k7 19 = x_lda 20 0 := rfl
theorem t7_19 (C : xF) (s n : Nat) (z : xS) : x_to q_k7 C s (n + 1) 19 z = x_nx q_k7 C s n ((x_lda 20 0) C z) := x_to_at f7_19 C s n z
theorem f7_20 : x_fetch q_k7 20 = x_lda 22 4 := rfl
theorem t7_20 (C : xF) (s n : Nat) (z : xS) : x_to q_k7 C s (n + 1) 20 z = x_nx q_k7 C s n ((x_lda 22 4) C z) := x_to_at f7_20 C s n z
theorem f7_22 : x_fetch q_k7 22 = x_pf 25 1 3 (.object "java/lang/String") := rfl
theorem t7_22 (C : xF) (s n : Nat) (z : xS) : x_to q_k7 C s (n + 1) 22 z = x_nx q_k7 C s n ((x_pf 25 1 3 (.object "java/lang/String")) C z) := x_to_at f7_22 C s n z
theorem f7_25 : x_fetch q_k7 25 = x_rv := rfl
theorem t7_25 (C : xF) (s n : Nat) (z : xS) : x_to q_k7 C s (n + 1) 25 z = x_nx q_k7 C s n ((x_rv) C z) := x_to_at f7_25 C s n z
theorem f8_0 : x_fetch q_k8 0 = x_lda 1 0 := rfl
theorem t8_0 (C : xF) (s n : Nat) (z : xS) : x_to q_k8 C s (n + 1) 0 z = x_nx q_k8 C s n ((x_lda 1 0) C z) := x_to_at f8_0 C s n z
theorem f8_1 : x_fetch q_k8 1 = x_st (x_oi 4) := rfl
theorem t8_1 (C : xF) (s n : Nat) (z : xS) : x_to q_k8 C s (n + 1) 1 z = x_nx q_k8 C s n ((x_st (x_oi 4)) C z) := x_to_at f8_1 C s n z
theorem f8_4 : x_fetch q_k8 4 = x_lda 5 0 := rfl
theorem t8_4 (C : xF) (s n : Nat) (z : xS) : x_to q_k8 C s (n + 1) 4 z = x_nx q_k8 C s n ((x_lda 5 0) C z) := x_to_at f8_4 C s n z
theorem f8_5 : x_fetch q_k8 5 = x_st (x_push 7 (.int (80))) := rfl
theorem t8_5 (C : xF) (s n : Nat) (z : xS) : x_to q_k8 C s (n + 1) 5 z = x_nx q_k8 C s n ((x_st (x_push 7 (.int (80)))) C z) := x_to_at f8_5 C s n z
theorem f8_7 : x_fetch q_k8 7 = x_na 9 0 := rfl
theorem t8_7 (C : xF) (s n : Nat) (z : xS) : x_to q_k8 C s (n + 1) 7 z = x_nx q_k8 C s n ((x_na 9 0) C z) := x_to_at f8_7 C s n z
theorem f8_9 : x_fetch q_k8 9 = x_pf 12 4 0 (.array .int) := rfl
theorem t8_9 (C : xF) (s n : Nat) (z : xS) : x_to q_k8 C s (n + 1) 9 z = x_nx q_k8 C s n ((x_pf 12 4 0 (.array .int)) C z) := x_to_at f8_9 C s n z
theorem f8_12 : x_fetch q_k8 12 = x_lda 13 0 := rfl
theorem t8_12 (C : xF) (s n : Nat) (z : xS) : x_to q_k8 C s (n + 1) 12 z = x_nx q_k8 C s n ((x_lda 13 0) C z) := x_to_at f8_12 C s n z
theorem f8_13 : x_fetch q_k8 13 = x_st (x_push 15 (.int (7))) := rfl
theorem t8_13 (C : xF) (s n : Nat) (z : xS) : x_to q_k8 C s (n + 1) 13 z = x_nx q_k8 C s n ((x_st (x_push 15 (.int (7)))) C z) := x_to_at f8_13 C s n z
theorem f8_15 : x_fetch q_k8 15 = x_na 17 0 := rfl
theorem t8_15 (C : xF) (s n : Nat) (z : xS) : x_to q_k8 C s (n + 1) 15 z = x_nx q_k8 C s n ((x_na 17 0) C z) := x_to_at f8_15 C s n z
theorem f8_17 : x_fetch q_k8 17 = x_pf 20 4 1 (.array .int) := rfl
theorem t8_17 (C : xF) (s n : Nat) (z : xS) : x_to q_k8 C s (n + 1) 17 z = x_nx q_k8 C s n ((x_pf 20 4 1 (.array .int)) C z) := x_to_at f8_17 C s n z
theorem f8_20 : x_fetch q_k8 20 = x_lda 21 0 := rfl
theorem t8_20 (C : xF) (s n : Nat) (z : xS) : x_to q_k8 C s (n + 1) 20 z = x_nx q_k8 C s n ((x_lda 21 0) C z) := x_to_at f8_20 C s n z
theorem f8_21 : x_fetch q_k8 21 = x_st (x_push 23 (.int (7))) := rfl
theorem t8_21 (C : xF) (s n : Nat) (z : xS) : x_to q_k8 C s (n + 1) 21 z = x_nx q_k8 C s n ((x_st (x_push 23 (.int (7)))) C z) := x_to_at f8_21 C s n z
theorem f8_23 : x_fetch q_k8 23 = x_na 25 1 := rfl
theorem t8_23 (C : xF) (s n : Nat) (z : xS) : x_to q_k8 C s (n + 1) 23 z = x_nx q_k8 C s n ((x_na 25 1) C z) := x_to_at f8_23 C s n z
theorem f8_25 : x_fetch q_k8 25 = x_pf 28 4 2 (.array .boolean) := rfl
theorem t8_25 (C : xF) (s n : Nat) (z : xS) : x_to q_k8 C s (n + 1) 25 z = x_nx q_k8 C s n ((x_pf 28 4 2 (.array .boolean)) C z) := x_to_at f8_25 C s n z
theorem f8_28 : x_fetch q_k8 28 = x_rv := rfl
theorem t8_28 (C : xF) (s n : Nat) (z : xS) : x_to q_k8 C s (n + 1) 28 z = x_nx q_k8 C s n ((x_rv) C z) := x_to_at f8_28 C s n z
theorem f9_0 : x_fetch q_k9 0 = x_lda 1 0 := rfl
theorem t9_0 (C : xF) (s n : Nat) (z : xS) : x_to q_k9 C s (n + 1) 0 z = x_nx q_k9 C s n ((x_lda 1 0) C z) := x_to_at f9_0 C s n z
theorem f9_1 : x_fetch q_k9 1 = x_st (x_oi 4) := rfl
theorem t9_1 (C : xF) (s n : Nat) (z : xS) : x_to q_k9 C s (n + 1) 1 z = x_nx q_k9 C s n ((x_st (x_oi 4)) C z) := x_to_at f9_1 C s n z
theorem f9_4 : x_fetch q_k9 4 = x_lda 5 0 := rfl
theorem t9_4 (C : xF) (s n : Nat) (z : xS) : x_to q_k9 C s (n + 1) 4 z = x_nx q_k9 C s n ((x_lda 5 0) C z) := x_to_at f9_4 C s n z
theorem f9_5 : x_fetch q_k9 5 = x_lda 6 1 := rfl
theorem t9_5 (C : xF) (s n : Nat) (z : xS) : x_to q_k9 C s (n + 1) 5 z = x_nx q_k9 C s n ((x_lda 6 1) C z) := x_to_at f9_5 C s n z
theorem f9_6 : x_fetch q_k9 6 = x_gf 9 4 0 := rfl
theorem t9_6 (C : xF) (s n : Nat) (z : xS) : x_to q_k9 C s (n + 1) 6 z = x_nx q_k9 C s n ((x_gf 9 4 0) C z) := x_to_at f9_6 C s n z
theorem f9_9 : x_fetch q_k9 9 = x_lda 10 1 := rfl
theorem t9_9 (C : xF) (s n : Nat) (z : xS) : x_to q_k9 C s (n + 1) 9 z = x_nx q_k9 C s n ((x_lda 10 1) C z) := x_to_at f9_9 C s n z
theorem f9_10 : x_fetch q_k9 10 = x_gf 13 4 4 := rfl
theorem t9_10 (C : xF) (s n : Nat) (z : xS) : x_to q_k9 C s (n + 1) 10 z = x_nx q_k9 C s n ((x_gf 13 4 4) C z) := x_to_at f9_10 C s n z
theorem f9_13 : x_fetch q_k9 13 = x_cl_ 16 149 2 := rfl
theorem t9_13 (C : xF) (s n : Nat) (z : xS) : x_to q_k9 C s (n + 1) 13 z = x_nx q_k9 C s n ((x_cl_ 16 149 2) C z) := x_to_at f9_13 C s n z
theorem f9_16 : x_fetch q_k9 16 = x_pf 19 4 0 (.array .int) := rfl
theorem t9_16 (C : xF) (s n : Nat) (z : xS) : x_to q_k9 C s (n + 1) 16 z = x_nx q_k9 C s n ((x_pf 19 4 0 (.array .int)) C z) := x_to_at f9_16 C s n z
theorem f9_19 : x_fetch q_k9 19 = x_lda 20 0 := rfl
theorem t9_19 (C : xF) (s n : Nat) (z : xS) : x_to q_k9 C s (n + 1) 19 z = x_nx q_k9 C s n ((x_lda 20 0) C z) := x_to_at f9_19 C s n z
theorem f9_20 : x_fetch q_k9 20 = x_lda 21 1 := rfl
theorem t9_20 (C : xF) (s n : Nat) (z : xS) : x_to q_k9 C s (n + 1) 20 z = x_nx q_k9 C s n ((x_lda 21 1) C z) := x_to_at f9_20 C s n z
theorem f9_21 : x_fetch q_k9 21 = x_gf 24 4 1 := rfl
theorem t9_21 (C : xF) (s n : Nat) (z : xS) : x_to q_k9 C s (n + 1) 21 z = x_nx q_k9 C s n ((x_gf 24 4 1) C z) := x_to_at f9_21 C s n z
theorem f9_24 : x_fetch q_k9 24 = x_lda 25 1 := rfl
theorem t9_24 (C : xF) (s n : Nat) (z : xS) : x_to q_k9 C s (n + 1) 24 z = x_nx q_k9 C s n ((x_lda 25 1) C z) := x_to_at f9_24 C s n z
theorem f9_25 : x_fetch q_k9 25 = x_gf 28 4 3 := rfl
theorem t9_25 (C : xF) (s n : Nat) (z : xS) : x_to q_k9 C s (n + 1) 25 z = x_nx q_k9 C s n ((x_gf 28 4 3) C z) := x_to_at f9_25 C s n z
theorem f9_28 : x_fetch q_k9 28 = x_cl_ 31 149 2 := rfl
theorem t9_28 (C : xF) (s n : Nat) (z : xS) : x_to q_k9 C s (n + 1) 28 z = x_nx q_k9 C s n ((x_cl_ 31 149 2) C z) := x_to_at f9_28 C s n z
theorem f9_31 : x_fetch q_k9 31 = x_pf 34 4 1 (.array .int) := rfl
theorem t9_31 (C : xF) (s n : Nat) (z : xS) : x_to q_k9 C s (n + 1) 31 z = x_nx q_k9 C s n ((x_pf 34 4 1 (.array .int)) C z) := x_to_at f9_31 C s n z
theorem f9_34 : x_fetch q_k9 34 = x_lda 35 0 := rfl
theorem t9_34 (C : xF) (s n : Nat) (z : xS) : x_to q_k9 C s (n + 1) 34 z = x_nx q_k9 C s n ((x_lda 35 0) C z) := x_to_at f9_34 C s n z
theorem f9_35 : x_fetch q_k9 35 = x_lda 36 1 := rfl
theorem t9_35 (C : xF) (s n : Nat) (z : xS) : x_to q_k9 C s (n + 1) 35 z = x_nx q_k9 C s n ((x_lda 36 1) C z) := x_to_at f9_35 C s n z
theorem f9_36 : x_fetch q_k9 36 = x_gf 39 4 3 := rfl
theorem t9_36 (C : xF) (s n : Nat) (z : xS) : x_to q_k9 C s (n + 1) 36 z = x_nx q_k9 C s n ((x_gf 39 4 3) C z) := x_to_at f9_36 C s n z
theorem f9_39 : x_fetch q_k9 39 = x_na 41 1 := rfl
theorem t9_39 (C : xF) (s n : Nat) (z : xS) : x_to q_k9 C s (n + 1) 39 z = x_nx q_k9 C s n ((x_na 41 1) C z) := x_to_at f9_39 C s n z
theorem f9_41 : x_fetch q_k9 41 = x_pf 44 4 2 (.array .boolean) := rfl
theorem t9_41 (C : xF) (s n : Nat) (z : xS) : x_to q_k9 C s (n + 1) 41 z = x_nx q_k9 C s n ((x_pf 44 4 2 (.array .boolean)) C z) := x_to_at f9_41 C s n z
theorem f9_44 : x_fetch q_k9 44 = x_st (x_push 45 (.int (0))) := rfl
theorem t9_44 (C : xF) (s n : Nat) (z : xS) : x_to q_k9 C s (n + 1) 44 z = x_nx q_k9 C s n ((x_st (x_push 45 (.int (0)))) C z) := x_to_at f9_44 C s n z
theorem f9_45 : x_fetch q_k9 45 = x_sti 46 2 := rfl
theorem t9_45 (C : xF) (s n : Nat) (z : xS) : x_to q_k9 C s (n + 1) 45 z = x_nx q_k9 C s n ((x_sti 46 2) C z) := x_to_at f9_45 C s n z
theorem f9_46 : x_fetch q_k9 46 = x_ldi 47 2 := rfl
theorem t9_46 (C : xF) (s n : Nat) (z : xS) : x_to q_k9 C s (n + 1) 46 z = x_nx q_k9 C s n ((x_ldi 47 2) C z) := x_to_at f9_46 C s n z
theorem f9_47 : x_fetch q_k9 47 = x_lda 48 1 := rfl
theorem t9_47 (C : xF) (s n : Nat) (z : xS) : x_to q_k9 C s (n + 1) 47 z = x_nx q_k9 C s n ((x_lda 48 1) C z) := x_to_at f9_47 C s n z
theorem f9_48 : x_fetch q_k9 48 = x_gf 51 4 3 := rfl
theorem t9_48 (C : xF) (s n : Nat) (z : xS) : x_to q_k9 C s (n + 1) 48 z = x_nx q_k9 C s n ((x_gf 51 4 3) C z) := x_to_at f9_48 C s n z
theorem f9_51 : x_fetch q_k9 51 = x_st (x_icge 72 54) := rfl
theorem t9_51 (C : xF) (s n : Nat) (z : xS) : x_to q_k9 C s (n + 1) 51 z = x_nx q_k9 C s n ((x_st (x_icge 72 54)) C z) := x_to_at f9_51 C s n z
theorem f9_54 : x_fetch q_k9 54 = x_lda 55 0 := rfl
theorem t9_54 (C : xF) (s n : Nat) (z : xS) : x_to q_k9 C s (n + 1) 54 z = x_nx q_k9 C s n ((x_lda 55 0) C z) := x_to_at f9_54 C s n z
theorem f9_55 : x_fetch q_k9 55 = x_gf 58 4 2 := rfl
theorem t9_55 (C : xF) (s n : Nat) (z : xS) : x_to q_k9 C s (n + 1) 55 z = x_nx q_k9 C s n ((x_gf 58 4 2) C z) := x_to_at f9_55 C s n z
theorem f9_58 : x_fetch q_k9 58 = x_ldi 59 2 := rfl
theorem t9_58 (C : xF) (s n : Nat) (z : xS) : x_to q_k9 C s (n + 1) 58 z = x_nx q_k9 C s n ((x_ldi 59 2) C z) := x_to_at f9_58 C s n z
theorem f9_59 : x_fetch q_k9 59 = x_lda 60 1 := rfl
theorem t9_59 (C : xF) (s n : Nat) (z : xS) : x_to q_k9 C s (n + 1) 59 z = x_nx q_k9 C s n ((x_lda 60 1) C z) := x_to_at f9_59 C s n z
theorem f9_60 : x_fetch q_k9 60 = x_gf 63 4 2 := rfl
theorem t9_60 (C : xF) (s n : Nat) (z : xS) : x_to q_k9 C s (n + 1) 60 z = x_nx q_k9 C s n ((x_gf 63 4 2) C z) := x_to_at f9_60 C s n z
theorem f9_63 : x_fetch q_k9 63 = x_ldi 64 2 := rfl
theorem t9_63 (C : xF) (s n : Nat) (z : xS) : x_to q_k9 C s (n + 1) 63 z = x_nx q_k9 C s n ((x_ldi 64 2) C z) := x_to_at f9_63 C s n z
theorem f9_64 : x_fetch q_k9 64 = x_ald 65 1 := rfl
theorem t9_64 (C : xF) (s n : Nat) (z : xS) : x_to q_k9 C s (n + 1) 64 z = x_nx q_k9 C s n ((x_ald 65 1) C z) := x_to_at f9_64 C s n z
theorem f9_65 : x_fetch q_k9 65 = x_ast 66 1 (fun x => vp_nar .boolean x) := rfl
theorem t9_65 (C : xF) (s n : Nat) (z : xS) : x_to q_k9 C s (n + 1) 65 z = x_nx q_k9 C s n ((x_ast 66 1 (fun x => vp_nar .boolean x)) C z) := x_to_at f9_65 C s n z
theorem f9_66 : x_fetch q_k9 66 = x_iinc 69 2 (1) := rfl
theorem t9_66 (C : xF) (s n : Nat) (z : xS) : x_to q_k9 C s (n + 1) 66 z = x_nx q_k9 C s n ((x_iinc 69 2 (1)) C z) := x_to_at f9_66 C s n z
theorem f9_69 : x_fetch q_k9 69 = x_st (x_goto 46) := rfl
theorem t9_69 (C : xF) (s n : Nat) (z : xS) : x_to q_k9 C s (n + 1) 69 z = x_nx q_k9 C s n ((x_st (x_goto 46)) C z) := x_to_at f9_69 C s n z
theorem f9_72 : x_fetch q_k9 72 = x_lda 73 0 := rfl
theorem t9_72 (C : xF) (s n : Nat) (z : xS) : x_to q_k9 C s (n + 1) 72 z = x_nx q_k9 C s n ((x_lda 73 0) C z) := x_to_at f9_72 C s n z
theorem f9_73 : x_fetch q_k9 73 = x_lda 74 1 := rfl
theorem t9_73 (C : xF) (s n : Nat) (z : xS) : x_to q_k9 C s (n + 1) 73 z = x_nx q_k9 C s n ((x_lda 74 1) C z) := x_to_at f9_73 C s n z
theorem f9_74 : x_fetch q_k9 74 = x_gf 77 4 3 := rfl
theorem t9_74 (C : xF) (s n : Nat) (z : xS) : x_to q_k9 C s (n + 1) 74 z = x_nx q_k9 C s n ((x_gf 77 4 3) C z) := x_to_at f9_74 C s n z
theorem f9_77 : x_fetch q_k9 77 = x_pf 80 4 3 (.int) := rfl
theorem t9_77 (C : xF) (s n : Nat) (z : xS) : x_to q_k9 C s (n + 1) 77 z = x_nx q_k9 C s n ((x_pf 80 4 3 (.int)) C z) := x_to_at f9_77 C s n z
theorem f9_80 : x_fetch q_k9 80 = x_lda 81 0 := rfl
theorem t9_80 (C : xF) (s n : Nat) (z : xS) : x_to q_k9 C s (n + 1) 80 z = x_nx q_k9 C s n ((x_lda 81 0) C z) := x_to_at f9_80 C s n z
theorem f9_81 : x_fetch q_k9 81 = x_lda 82 1 := rfl
theorem t9_81 (C : xF) (s n : Nat) (z : xS) : x_to q_k9 C s (n + 1) 81 z = x_nx q_k9 C s n ((x_lda 82 1) C z) := x_to_at f9_81 C s n z
theorem f9_82 : x_fetch q_k9 82 = x_gf 85 4 4 := rfl
theorem t9_82 (C : xF) (s n : Nat) (z : xS) : x_to q_k9 C s (n + 1) 82 z = x_nx q_k9 C s n ((x_gf 85 4 4) C z) := x_to_at f9_82 C s n z
theorem f9_85 : x_fetch q_k9 85 = x_pf 88 4 4 (.int) := rfl
theorem t9_85 (C : xF) (s n : Nat) (z : xS) : x_to q_k9 C s (n + 1) 85 z = x_nx q_k9 C s n ((x_pf 88 4 4 (.int)) C z) := x_to_at f9_85 C s n z
theorem f9_88 : x_fetch q_k9 88 = x_rv := rfl
theorem t9_88 (C : xF) (s n : Nat) (z : xS) : x_to q_k9 C s (n + 1) 88 z = x_nx q_k9 C s n ((x_rv) C z) := x_to_at f9_88 C s n z
theorem f10_0 : x_fetch q_k10 0 = x_lda 1 0 := rfl
theorem t10_0 (C : xF) (s n : Nat) (z : xS) : x_to q_k10 C s (n + 1) 0 z = x_nx q_k10 C s n ((x_lda 1 0) C z) := x_to_at f10_0 C s n z
theorem f10_1 : x_fetch q_k10 1 = x_st (x_push 2 (.int (0))) := rfl
theorem t10_1 (C : xF) (s n : Nat) (z : xS) : x_to q_k10 C s (n + 1) 1 z = x_nx q_k10 C s n ((x_st (x_push 2 (.int (0)))) C z) := x_to_at f10_1 C s n z
theorem f10_2 : x_fetch q_k10 2 = x_pf 5 4 3 (.int) := rfl
theorem t10_2 (C : xF) (s n : Nat) (z : xS) : x_to q_k10 C s (n + 1) 2 z = x_nx q_k10 C s n ((x_pf 5 4 3 (.int)) C z) := x_to_at f10_2 C s n z
theorem f10_5 : x_fetch q_k10 5 = x_lda 6 0 := rfl
theorem t10_5 (C : xF) (s n : Nat) (z : xS) : x_to q_k10 C s (n + 1) 5 z = x_nx q_k10 C s n ((x_lda 6 0) C z) := x_to_at f10_5 C s n z
theorem f10_6 : x_fetch q_k10 6 = x_st (x_push 7 (.int (0))) := rfl
theorem t10_6 (C : xF) (s n : Nat) (z : xS) : x_to q_k10 C s (n + 1) 6 z = x_nx q_k10 C s n ((x_st (x_push 7 (.int (0)))) C z) := x_to_at f10_6 C s n z
theorem f10_7 : x_fetch q_k10 7 = x_pf 10 4 4 (.int) := rfl
theorem t10_7 (C : xF) (s n : Nat) (z : xS) : x_to q_k10 C s (n + 1) 7 z = x_nx q_k10 C s n ((x_pf 10 4 4 (.int)) C z) := x_to_at f10_7 C s n z
theorem f10_10 : x_fetch q_k10 10 = x_rv := rfl
theorem t10_10 (C : xF) (s n : Nat) (z : xS) : x_to q_k10 C s (n + 1) 10 z = x_nx q_k10 C s n ((x_rv) C z) := x_to_at f10_10 C s n z
theorem f11_0 : x_fetch q_k11 0 = x_ldi 1 1 := rfl
theorem t11_0 (C : xF) (s n : Nat) (z : xS) : x_to q_k11 C s (n + 1) 0 z = x_nx q_k11 C s n ((x_ldi 1 1) C z) := x_to_at f11_0 C s n z
theorem f11_1 : x_fetch q_k11 1 = x_st (x_ifne 8 4) := rfl
theorem t11_1 (C : xF) (s n : Nat) (z : xS) : x_to q_k11 C s (n + 1) 1 z = x_nx q_k11 C s n ((x_st (x_ifne 8 4)) C z) := x_to_at f11_1 C s n z
theorem f11_4 : x_fetch q_k11 4 = x_st (x_push 5 (.int (0))) := rfl
theorem t11_4 (C : xF) (s n : Nat) (z : xS) : x_to q_k11 C s (n + 1) 4 z = x_nx q_k11 C s n ((x_st (x_push 5 (.int (0)))) C z) := x_to_at f11_4 C s n z
theorem f11_5 : x_fetch q_k11 5 = x_st (x_goto 16) := rfl
theorem t11_5 (C : xF) (s n : Nat) (z : xS) : x_to q_k11 C s (n + 1) 5 z = x_nx q_k11 C s n ((x_st (x_goto 16)) C z) := x_to_at f11_5 C s n z
theorem f11_8 : x_fetch q_k11 8 = x_lda 9 0 := rfl
theorem t11_8 (C : xF) (s n : Nat) (z : xS) : x_to q_k11 C s (n + 1) 8 z = x_nx q_k11 C s n ((x_lda 9 0) C z) := x_to_at f11_8 C s n z
theorem f11_9 : x_fetch q_k11 9 = x_gf 12 4 1 := rfl
theorem t11_9 (C : xF) (s n : Nat) (z : xS) : x_to q_k11 C s (n + 1) 9 z = x_nx q_k11 C s n ((x_gf 12 4 1) C z) := x_to_at f11_9 C s n z
theorem f11_12 : x_fetch q_k11 12 = x_ldi 13 1 := rfl
theorem t11_12 (C : xF) (s n : Nat) (z : xS) : x_to q_k11 C s (n + 1) 12 z = x_nx q_k11 C s n ((x_ldi 13 1) C z) := x_to_at f11_12 C s n z
theorem f11_13 : x_fetch q_k11 13 = x_st (x_push 14 (.int (1))) := rfl
theorem t11_13 (C : xF) (s n : Nat) (z : xS) : x_to q_k11 C s (n + 1) 13 z = x_nx q_k11 C s n ((x_st (x_push 14 (.int (1)))) C z) := x_to_at f11_13 C s n z
theorem f11_14 : x_fetch q_k11 14 = x_st (x_bin 15 (fun a b => a - b)) := rfl
theorem t11_14 (C : xF) (s n : Nat) (z : xS) : x_to q_k11 C s (n + 1) 14 z = x_nx q_k11 C s n ((x_st (x_bin 15 (fun a b => a - b))) C z) := x_to_at f11_14 C s n z
theorem f11_15 : x_fetch q_k11 15 = x_ald 16 0 := rfl
theorem t11_15 (C : xF) (s n : Nat) (z : xS) : x_to q_k11 C s (n + 1) 15 z = x_nx q_k11 C s n ((x_ald 16 0) C z) := x_to_at f11_15 C s n z
theorem f11_16 : x_fetch q_k11 16 = x_ri (.int) := rfl
theorem t11_16 (C : xF) (s n : Nat) (z : xS) : x_to q_k11 C s (n + 1) 16 z = x_nx q_k11 C s n ((x_ri (.int)) C z) := x_to_at f11_16 C s n z
theorem f12_0 : x_fetch q_k12 0 = x_ldi 1 1 := rfl
theorem t12_0 (C : xF) (s n : Nat) (z : xS) : x_to q_k12 C s (n + 1) 0 z = x_nx q_k12 C s n ((x_ldi 1 1) C z) := x_to_at f12_0 C s n z
theorem f12_1 : x_fetch q_k12 1 = x_st (x_iflt 16 4) := rfl
theorem t12_1 (C : xF) (s n : Nat) (z : xS) : x_to q_k12 C s (n + 1) 1 z = x_nx q_k12 C s n ((x_st (x_iflt 16 4)) C z) := x_to_at f12_1 C s n z
theorem f12_4 : x_fetch q_k12 4 = x_ldi 5 1 := rfl
theorem t12_4 (C : xF) (s n : Nat) (z : xS) : x_to q_k12 C s (n + 1) 4 z = x_nx q_k12 C s n ((x_ldi 5 1) C z) := x_to_at f12_4 C s n z
theorem f12_5 : x_fetch q_k12 5 = x_lda 6 0 := rfl
theorem t12_5 (C : xF) (s n : Nat) (z : xS) : x_to q_k12 C s (n + 1) 5 z = x_nx q_k12 C s n ((x_lda 6 0) C z) := x_to_at f12_5 C s n z
theorem f12_6 : x_fetch q_k12 6 = x_gf 9 4 3 := rfl
theorem t12_6 (C : xF) (s n : Nat) (z : xS) : x_to q_k12 C s (n + 1) 6 z = x_nx q_k12 C s n ((x_gf 9 4 3) C z) := x_to_at f12_6 C s n z
theorem f12_9 : x_fetch q_k12 9 = x_st (x_icge 16 12) := rfl
theorem t12_9 (C : xF) (s n : Nat) (z : xS) : x_to q_k12 C s (n + 1) 9 z = x_nx q_k12 C s n ((x_st (x_icge 16 12)) C z) := x_to_at f12_9 C s n z
theorem f12_12 : x_fetch q_k12 12 = x_st (x_push 13 (.int (1))) := rfl
theorem t12_12 (C : xF) (s n : Nat) (z : xS) : x_to q_k12 C s (n + 1) 12 z = x_nx q_k12 C s n ((x_st (x_push 13 (.int (1)))) C z) := x_to_at f12_12 C s n z
theorem f12_13 : x_fetch q_k12 13 = x_st (x_goto 17) := rfl
theorem t12_13 (C : xF) (s n : Nat) (z : xS) : x_to q_k12 C s (n + 1) 13 z = x_nx q_k12 C s n ((x_st (x_goto 17)) C z) := x_to_at f12_13 C s n z
theorem f12_16 : x_fetch q_k12 16 = x_st (x_push 17 (.int (0))) := rfl
theorem t12_16 (C : xF) (s n : Nat) (z : xS) : x_to q_k12 C s (n + 1) 16 z = x_nx q_k12 C s n ((x_st (x_push 17 (.int (0)))) C z) := x_to_at f12_16 C s n z
theorem f12_17 : x_fetch q_k12 17 = x_ri (.boolean) := rfl
theorem t12_17 (C : xF) (s n : Nat) (z : xS) : x_to q_k12 C s (n + 1) 17 z = x_nx q_k12 C s n ((x_ri (.boolean)) C z) := x_to_at f12_17 C s n z
theorem f13_0 : x_fetch q_k13 0 = x_lda 1 0 := rfl
theorem t13_0 (C : xF) (s n : Nat) (z : xS) : x_to q_k13 C s (n + 1) 0 z = x_nx q_k13 C s n ((x_lda 1 0) C z) := x_to_at f13_0 C s n z
theorem f13_1 : x_fetch q_k13 1 = x_gf 4 4 0 := rfl
theorem t13_1 (C : xF) (s n : Nat) (z : xS) : x_to q_k13 C s (n + 1) 1 z = x_nx q_k13 C s n ((x_gf 4 4 0) C z) := x_to_at f13_1 C s n z
theorem f13_4 : x_fetch q_k13 4 = x_lda 5 0 := rfl
theorem t13_4 (C : xF) (s n : Nat) (z : xS) : x_to q_k13 C s (n + 1) 4 z = x_nx q_k13 C s n ((x_lda 5 0) C z) := x_to_at f13_4 C s n z
theorem f13_5 : x_fetch q_k13 5 = x_ldi 6 1 := rfl
theorem t13_5 (C : xF) (s n : Nat) (z : xS) : x_to q_k13 C s (n + 1) 5 z = x_nx q_k13 C s n ((x_ldi 6 1) C z) := x_to_at f13_5 C s n z
theorem f13_6 : x_fetch q_k13 6 = x_cv 9 11 2 4 := rfl
theorem t13_6 (C : xF) (s n : Nat) (z : xS) : x_to q_k13 C s (n + 1) 6 z = x_nx q_k13 C s n ((x_cv 9 11 2 4) C z) := x_to_at f13_6 C s n z
theorem f13_9 : x_fetch q_k13 9 = x_ald 10 0 := rfl
theorem t13_9 (C : xF) (s n : Nat) (z : xS) : x_to q_k13 C s (n + 1) 9 z = x_nx q_k13 C s n ((x_ald 10 0) C z) := x_to_at f13_9 C s n z
theorem f13_10 : x_fetch q_k13 10 = x_st (x_push 12 (.int (106))) := rfl
theorem t13_10 (C : xF) (s n : Nat) (z : xS) : x_to q_k13 C s (n + 1) 10 z = x_nx q_k13 C s n ((x_st (x_push 12 (.int (106)))) C z) := x_to_at f13_10 C s n z
theorem f13_12 : x_fetch q_k13 12 = x_st (x_icne 19 15) := rfl
theorem t13_12 (C : xF) (s n : Nat) (z : xS) : x_to q_k13 C s (n + 1) 12 z = x_nx q_k13 C s n ((x_st (x_icne 19 15)) C z) := x_to_at f13_12 C s n z
theorem f13_15 : x_fetch q_k13 15 = x_st (x_push 16 (.int (1))) := rfl
theorem t13_15 (C : xF) (s n : Nat) (z : xS) : x_to q_k13 C s (n + 1) 15 z = x_nx q_k13 C s n ((x_st (x_push 16 (.int (1)))) C z) := x_to_at f13_15 C s n z
theorem f13_16 : x_fetch q_k13 16 = x_st (x_goto 20) := rfl
theorem t13_16 (C : xF) (s n : Nat) (z : xS) : x_to q_k13 C s (n + 1) 16 z = x_nx q_k13 C s n ((x_st (x_goto 20)) C z) := x_to_at f13_16 C s n z
theorem f13_19 : x_fetch q_k13 19 = x_st (x_push 20 (.int (0))) := rfl
theorem t13_19 (C : xF) (s n : Nat) (z : xS) : x_to q_k13 C s (n + 1) 19 z = x_nx q_k13 C s n ((x_st (x_push 20 (.int (0)))) C z) := x_to_at f13_19 C s n z
theorem f13_20 : x_fetch q_k13 20 = x_ri (.boolean) := rfl
theorem t13_20 (C : xF) (s n : Nat) (z : xS) : x_to q_k13 C s (n + 1) 20 z = x_nx q_k13 C s n ((x_ri (.boolean)) C z) := x_to_at f13_20 C s n z
theorem f14_0 : x_fetch q_k14 0 = x_lda 1 0 := rfl
theorem t14_0 (C : xF) (s n : Nat) (z : xS) : x_to q_k14 C s (n + 1) 0 z = x_nx q_k14 C s n ((x_lda 1 0) C z) := x_to_at f14_0 C s n z
theorem f14_1 : x_fetch q_k14 1 = x_ldi 2 1 := rfl
theorem t14_1 (C : xF) (s n : Nat) (z : xS) : x_to q_k14 C s (n + 1) 1 z = x_nx q_k14 C s n ((x_ldi 2 1) C z) := x_to_at f14_1 C s n z
theorem f14_2 : x_fetch q_k14 2 = x_cv 5 11 2 4 := rfl
theorem t14_2 (C : xF) (s n : Nat) (z : xS) : x_to q_k14 C s (n + 1) 2 z = x_nx q_k14 C s n ((x_cv 5 11 2 4) C z) := x_to_at f14_2 C s n z
theorem f14_5 : x_fetch q_k14 5 = x_st (x_push 6 (.int (1))) := rfl
theorem t14_5 (C : xF) (s n : Nat) (z : xS) : x_to q_k14 C s (n + 1) 5 z = x_nx q_k14 C s n ((x_st (x_push 6 (.int (1)))) C z) := x_to_at f14_5 C s n z
theorem f14_6 : x_fetch q_k14 6 = x_st (x_bin 7 (fun a b => a + b)) := rfl
theorem t14_6 (C : xF) (s n : Nat) (z : xS) : x_to q_k14 C s (n + 1) 6 z = x_nx q_k14 C s n ((x_st (x_bin 7 (fun a b => a + b))) C z) := x_to_at f14_6 C s n z
theorem f14_7 : x_fetch q_k14 7 = x_sti 8 3 := rfl
theorem t14_7 (C : xF) (s n : Nat) (z : xS) : x_to q_k14 C s (n + 1) 7 z = x_nx q_k14 C s n ((x_sti 8 3) C z) := x_to_at f14_7 C s n z
theorem f14_8 : x_fetch q_k14 8 = x_ldi 9 2 := rfl
theorem t14_8 (C : xF) (s n : Nat) (z : xS) : x_to q_k14 C s (n + 1) 8 z = x_nx q_k14 C s n ((x_ldi 9 2) C z) := x_to_at f14_8 C s n z
theorem f14_9 : x_fetch q_k14 9 = x_st (x_iflt 42 12) := rfl
theorem t14_9 (C : xF) (s n : Nat) (z : xS) : x_to q_k14 C s (n + 1) 9 z = x_nx q_k14 C s n ((x_st (x_iflt 42 12)) C z) := x_to_at f14_9 C s n z
theorem f14_12 : x_fetch q_k14 12 = x_ldi 13 2 := rfl
theorem t14_12 (C : xF) (s n : Nat) (z : xS) : x_to q_k14 C s (n + 1) 12 z = x_nx q_k14 C s n ((x_ldi 13 2) C z) := x_to_at f14_12 C s n z
theorem f14_13 : x_fetch q_k14 13 = x_lda 14 0 := rfl
theorem t14_13 (C : xF) (s n : Nat) (z : xS) : x_to q_k14 C s (n + 1) 13 z = x_nx q_k14 C s n ((x_lda 14 0) C z) := x_to_at f14_13 C s n z
theorem f14_14 : x_fetch q_k14 14 = x_gf 17 4 1 := rfl
theorem t14_14 (C : xF) (s n : Nat) (z : xS) : x_to q_k14 C s (n + 1) 14 z = x_nx q_k14 C s n ((x_gf 17 4 1) C z) := x_to_at f14_14 C s n z
theorem f14_17 : x_fetch q_k14 17 = x_ldi 18 1 := rfl
theorem t14_17 (C : xF) (s n : Nat) (z : xS) : x_to q_k14 C s (n + 1) 17 z = x_nx q_k14 C s n ((x_ldi 18 1) C z) := x_to_at f14_17 C s n z
theorem f14_18 : x_fetch q_k14 18 = x_ald 19 0 := rfl
theorem t14_18 (C : xF) (s n : Nat) (z : xS) : x_to q_k14 C s (n + 1) 18 z = x_nx q_k14 C s n ((x_ald 19 0) C z) := x_to_at f14_18 C s n z
theorem f14_19 : x_fetch q_k14 19 = x_ldi 20 3 := rfl
theorem t14_19 (C : xF) (s n : Nat) (z : xS) : x_to q_k14 C s (n + 1) 19 z = x_nx q_k14 C s n ((x_ldi 20 3) C z) := x_to_at f14_19 C s n z
theorem f14_20 : x_fetch q_k14 20 = x_st (x_bin 21 (fun a b => a - b)) := rfl
theorem t14_20 (C : xF) (s n : Nat) (z : xS) : x_to q_k14 C s (n + 1) 20 z = x_nx q_k14 C s n ((x_st (x_bin 21 (fun a b => a - b))) C z) := x_to_at f14_20 C s n z
theorem f14_21 : x_fetch q_k14 21 = x_st (x_icge 42 24) := rfl
theorem t14_21 (C : xF) (s n : Nat) (z : xS) : x_to q_k14 C s (n + 1) 21 z = x_nx q_k14 C s n ((x_st (x_icge 42 24)) C z) := x_to_at f14_21 C s n z
theorem f14_24 : x_fetch q_k14 24 = x_lda 25 0 := rfl
theorem t14_24 (C : xF) (s n : Nat) (z : xS) : x_to q_k14 C s (n + 1) 24 z = x_nx q_k14 C s n ((x_lda 25 0) C z) := x_to_at f14_24 C s n z
theorem f14_25 : x_fetch q_k14 25 = x_gf 28 4 0 := rfl
theorem t14_25 (C : xF) (s n : Nat) (z : xS) : x_to q_k14 C s (n + 1) 25 z = x_nx q_k14 C s n ((x_gf 28 4 0) C z) := x_to_at f14_25 C s n z
theorem f14_28 : x_fetch q_k14 28 = x_ldi 29 3 := rfl
theorem t14_28 (C : xF) (s n : Nat) (z : xS) : x_to q_k14 C s (n + 1) 28 z = x_nx q_k14 C s n ((x_ldi 29 3) C z) := x_to_at f14_28 C s n z
theorem f14_29 : x_fetch q_k14 29 = x_ldi 30 2 := rfl
theorem t14_29 (C : xF) (s n : Nat) (z : xS) : x_to q_k14 C s (n + 1) 29 z = x_nx q_k14 C s n ((x_ldi 30 2) C z) := x_to_at f14_29 C s n z
theorem f14_30 : x_fetch q_k14 30 = x_st (x_bin 31 (fun a b => a + b)) := rfl
theorem t14_30 (C : xF) (s n : Nat) (z : xS) : x_to q_k14 C s (n + 1) 30 z = x_nx q_k14 C s n ((x_st (x_bin 31 (fun a b => a + b))) C z) := x_to_at f14_30 C s n z
theorem f14_31 : x_fetch q_k14 31 = x_ald 32 0 := rfl
theorem t14_31 (C : xF) (s n : Nat) (z : xS) : x_to q_k14 C s (n + 1) 31 z = x_nx q_k14 C s n ((x_ald 32 0) C z) := x_to_at f14_31 C s n z
theorem f14_32 : x_fetch q_k14 32 = x_cl_ 35 2 1 := rfl
theorem t14_32 (C : xF) (s n : Nat) (z : xS) : x_to q_k14 C s (n + 1) 32 z = x_nx q_k14 C s n ((x_cl_ 35 2 1) C z) := x_to_at f14_32 C s n z
theorem f14_35 : x_fetch q_k14 35 = x_st (x_ifne 42 38) := rfl
theorem t14_35 (C : xF) (s n : Nat) (z : xS) : x_to q_k14 C s (n + 1) 35 z = x_nx q_k14 C s n ((x_st (x_ifne 42 38)) C z) := x_to_at f14_35 C s n z
theorem f14_38 : x_fetch q_k14 38 = x_st (x_push 39 (.int (1))) := rfl
theorem t14_38 (C : xF) (s n : Nat) (z : xS) : x_to q_k14 C s (n + 1) 38 z = x_nx q_k14 C s n ((x_st (x_push 39 (.int (1)))) C z) := x_to_at f14_38 C s n z
theorem f14_39 : x_fetch q_k14 39 = x_st (x_goto 43) := rfl
theorem t14_39 (C : xF) (s n : Nat) (z : xS) : x_to q_k14 C s (n + 1) 39 z = x_nx q_k14 C s n ((x_st (x_goto 43)) C z) := x_to_at f14_39 C s n z
theorem f14_42 : x_fetch q_k14 42 = x_st (x_push 43 (.int (0))) := rfl
theorem t14_42 (C : xF) (s n : Nat) (z : xS) : x_to q_k14 C s (n + 1) 42 z = x_nx q_k14 C s n ((x_st (x_push 43 (.int (0)))) C z) := x_to_at f14_42 C s n z
theorem f14_43 : x_fetch q_k14 43 = x_ri (.boolean) := rfl
theorem t14_43 (C : xF) (s n : Nat) (z : xS) : x_to q_k14 C s (n + 1) 43 z = x_nx q_k14 C s n ((x_ri (.boolean)) C z) := x_to_at f14_43 C s n z
theorem f15_0 : x_fetch q_k15 0 = x_lda 1 0 := rfl
theorem t15_0 (C : xF) (s n : Nat) (z : xS) : x_to q_k15 C s (n + 1) 0 z = x_nx q_k15 C s n ((x_lda 1 0) C z) := x_to_at f15_0 C s n z
theorem f15_1 : x_fetch q_k15 1 = x_lda 2 0 := rfl
theorem t15_1 (C : xF) (s n : Nat) (z : xS) : x_to q_k15 C s (n + 1) 1 z = x_nx q_k15 C s n ((x_lda 2 0) C z) := x_to_at f15_1 C s n z
theorem f15_2 : x_fetch q_k15 2 = x_gf 5 4 4 := rfl
theorem t15_2 (C : xF) (s n : Nat) (z : xS) : x_to q_k15 C s (n + 1) 2 z = x_nx q_k15 C s n ((x_gf 5 4 4) C z) := x_to_at f15_2 C s n z
theorem f15_5 : x_fetch q_k15 5 = x_pf 8 4 5 (.int) := rfl
theorem t15_5 (C : xF) (s n : Nat) (z : xS) : x_to q_k15 C s (n + 1) 5 z = x_nx q_k15 C s n ((x_pf 8 4 5 (.int)) C z) := x_to_at f15_5 C s n z
theorem f15_8 : x_fetch q_k15 8 = x_lda 9 0 := rfl
theorem t15_8 (C : xF) (s n : Nat) (z : xS) : x_to q_k15 C s (n + 1) 8 z = x_nx q_k15 C s n ((x_lda 9 0) C z) := x_to_at f15_8 C s n z
theorem f15_9 : x_fetch q_k15 9 = x_gf 12 4 3 := rfl
theorem t15_9 (C : xF) (s n : Nat) (z : xS) : x_to q_k15 C s (n + 1) 9 z = x_nx q_k15 C s n ((x_gf 12 4 3) C z) := x_to_at f15_9 C s n z
theorem f15_12 : x_fetch q_k15 12 = x_lda 13 0 := rfl
theorem t15_12 (C : xF) (s n : Nat) (z : xS) : x_to q_k15 C s (n + 1) 12 z = x_nx q_k15 C s n ((x_lda 13 0) C z) := x_to_at f15_12 C s n z
theorem f15_13 : x_fetch q_k15 13 = x_gf 16 4 2 := rfl
theorem t15_13 (C : xF) (s n : Nat) (z : xS) : x_to q_k15 C s (n + 1) 13 z = x_nx q_k15 C s n ((x_gf 16 4 2) C z) := x_to_at f15_13 C s n z
theorem f15_16 : x_fetch q_k15 16 = x_aln 17 6 := rfl
theorem t15_16 (C : xF) (s n : Nat) (z : xS) : x_to q_k15 C s (n + 1) 16 z = x_nx q_k15 C s n ((x_aln 17 6) C z) := x_to_at f15_16 C s n z
theorem f15_17 : x_fetch q_k15 17 = x_st (x_icge 30 20) := rfl
theorem t15_17 (C : xF) (s n : Nat) (z : xS) : x_to q_k15 C s (n + 1) 17 z = x_nx q_k15 C s n ((x_st (x_icge 30 20)) C z) := x_to_at f15_17 C s n z
theorem f15_20 : x_fetch q_k15 20 = x_lda 21 0 := rfl
theorem t15_20 (C : xF) (s n : Nat) (z : xS) : x_to q_k15 C s (n + 1) 20 z = x_nx q_k15 C s n ((x_lda 21 0) C z) := x_to_at f15_20 C s n z
theorem f15_21 : x_fetch q_k15 21 = x_gf 24 4 2 := rfl
theorem t15_21 (C : xF) (s n : Nat) (z : xS) : x_to q_k15 C s (n + 1) 21 z = x_nx q_k15 C s n ((x_gf 24 4 2) C z) := x_to_at f15_21 C s n z
theorem f15_24 : x_fetch q_k15 24 = x_lda 25 0 := rfl
theorem t15_24 (C : xF) (s n : Nat) (z : xS) : x_to q_k15 C s (n + 1) 24 z = x_nx q_k15 C s n ((x_lda 25 0) C z) := x_to_at f15_24 C s n z
theorem f15_25 : x_fetch q_k15 25 = x_gf 28 4 3 := rfl
theorem t15_25 (C : xF) (s n : Nat) (z : xS) : x_to q_k15 C s (n + 1) 25 z = x_nx q_k15 C s n ((x_gf 28 4 3) C z) := x_to_at f15_25 C s n z
theorem f15_28 : x_fetch q_k15 28 = x_ldi 29 1 := rfl
theorem t15_28 (C : xF) (s n : Nat) (z : xS) : x_to q_k15 C s (n + 1) 28 z = x_nx q_k15 C s n ((x_ldi 29 1) C z) := x_to_at f15_28 C s n z
theorem f15_29 : x_fetch q_k15 29 = x_ast 30 1 (fun x => vp_nar .boolean x) := rfl
theorem t15_29 (C : xF) (s n : Nat) (z : xS) : x_to q_k15 C s (n + 1) 29 z = x_nx q_k15 C s n ((x_ast 30 1 (fun x => vp_nar .boolean x)) C z) := x_to_at f15_29 C s n z
theorem f15_30 : x_fetch q_k15 30 = x_rv := rfl
theorem t15_30 (C : xF) (s n : Nat) (z : xS) : x_to q_k15 C s (n + 1) 30 z = x_nx q_k15 C s n ((x_rv) C z) := x_to_at f15_30 C s n z
theorem f16_0 : x_fetch q_k16 0 = x_lda 1 0 := rfl
theorem t16_0 (C : xF) (s n : Nat) (z : xS) : x_to q_k16 C s (n + 1) 0 z = x_nx q_k16 C s n ((x_lda 1 0) C z) := x_to_at f16_0 C s n z
theorem f16_1 : x_fetch q_k16 1 = x_gf 4 4 4 := rfl
theorem t16_1 (C : xF) (s n : Nat) (z : xS) : x_to q_k16 C s (n + 1) 1 z = x_nx q_k16 C s n ((x_gf 4 4 4) C z) := x_to_at f16_1 C s n z
theorem f16_4 : x_fetch q_k16 4 = x_lda 5 0 := rfl
theorem t16_4 (C : xF) (s n : Nat) (z : xS) : x_to q_k16 C s (n + 1) 4 z = x_nx q_k16 C s n ((x_lda 5 0) C z) := x_to_at f16_4 C s n z
theorem f16_5 : x_fetch q_k16 5 = x_gf 8 4 0 := rfl
theorem t16_5 (C : xF) (s n : Nat) (z : xS) : x_to q_k16 C s (n + 1) 5 z = x_nx q_k16 C s n ((x_gf 8 4 0) C z) := x_to_at f16_5 C s n z
theorem f16_8 : x_fetch q_k16 8 = x_aln 9 6 := rfl
theorem t16_8 (C : xF) (s n : Nat) (z : xS) : x_to q_k16 C s (n + 1) 8 z = x_nx q_k16 C s n ((x_aln 9 6) C z) := x_to_at f16_8 C s n z
theorem f16_9 : x_fetch q_k16 9 = x_st (x_icge 26 12) := rfl
theorem t16_9 (C : xF) (s n : Nat) (z : xS) : x_to q_k16 C s (n + 1) 9 z = x_nx q_k16 C s n ((x_st (x_icge 26 12)) C z) := x_to_at f16_9 C s n z
theorem f16_12 : x_fetch q_k16 12 = x_lda 13 0 := rfl
theorem t16_12 (C : xF) (s n : Nat) (z : xS) : x_to q_k16 C s (n + 1) 12 z = x_nx q_k16 C s n ((x_lda 13 0) C z) := x_to_at f16_12 C s n z
theorem f16_13 : x_fetch q_k16 13 = x_gf 16 4 4 := rfl
theorem t16_13 (C : xF) (s n : Nat) (z : xS) : x_to q_k16 C s (n + 1) 13 z = x_nx q_k16 C s n ((x_gf 16 4 4) C z) := x_to_at f16_13 C s n z
theorem f16_16 : x_fetch q_k16 16 = x_lda 17 0 := rfl
theorem t16_16 (C : xF) (s n : Nat) (z : xS) : x_to q_k16 C s (n + 1) 16 z = x_nx q_k16 C s n ((x_lda 17 0) C z) := x_to_at f16_16 C s n z
theorem f16_17 : x_fetch q_k16 17 = x_gf 20 4 5 := rfl
theorem t16_17 (C : xF) (s n : Nat) (z : xS) : x_to q_k16 C s (n + 1) 17 z = x_nx q_k16 C s n ((x_gf 20 4 5) C z) := x_to_at f16_17 C s n z
theorem f16_20 : x_fetch q_k16 20 = x_st (x_bin 21 (fun a b => a - b)) := rfl
theorem t16_20 (C : xF) (s n : Nat) (z : xS) : x_to q_k16 C s (n + 1) 20 z = x_nx q_k16 C s n ((x_st (x_bin 21 (fun a b => a - b))) C z) := x_to_at f16_20 C s n z
theorem f16_21 : x_fetch q_k16 21 = x_st (x_push 23 (.int (40))) := rfl
theorem t16_21 (C : xF) (s n : Nat) (z : xS) : x_to q_k16 C s (n + 1) 21 z = x_nx q_k16 C s n ((x_st (x_push 23 (.int (40)))) C z) := x_to_at f16_21 C s n z
theorem f16_23 : x_fetch q_k16 23 = x_st (x_iclt 28 26) := rfl
theorem t16_23 (C : xF) (s n : Nat) (z : xS) : x_to q_k16 C s (n + 1) 23 z = x_nx q_k16 C s n ((x_st (x_iclt 28 26)) C z) := x_to_at f16_23 C s n z
theorem f16_26 : x_fetch q_k16 26 = x_st (x_push 27 (.int (0))) := rfl
theorem t16_26 (C : xF) (s n : Nat) (z : xS) : x_to q_k16 C s (n + 1) 26 z = x_nx q_k16 C s n ((x_st (x_push 27 (.int (0)))) C z) := x_to_at f16_26 C s n z
theorem f16_27 : x_fetch q_k16 27 = x_ri (.boolean) := rfl
theorem t16_27 (C : xF) (s n : Nat) (z : xS) : x_to q_k16 C s (n + 1) 27 z = x_nx q_k16 C s n ((x_ri (.boolean)) C z) := x_to_at f16_27 C s n z
theorem f16_28 : x_fetch q_k16 28 = x_lda 29 0 := rfl
theorem t16_28 (C : xF) (s n : Nat) (z : xS) : x_to q_k16 C s (n + 1) 28 z = x_nx q_k16 C s n ((x_lda 29 0) C z) := x_to_at f16_28 C s n z
theorem f16_29 : x_fetch q_k16 29 = x_gf 32 4 0 := rfl
theorem t16_29 (C : xF) (s n : Nat) (z : xS) : x_to q_k16 C s (n + 1) 29 z = x_nx q_k16 C s n ((x_gf 32 4 0) C z) := x_to_at f16_29 C s n z
theorem f16_32 : x_fetch q_k16 32 = x_lda 33 0 := rfl
theorem t16_32 (C : xF) (s n : Nat) (z : xS) : x_to q_k16 C s (n + 1) 32 z = x_nx q_k16 C s n ((x_lda 33 0) C z) := x_to_at f16_32 C s n z
theorem f16_33 : x_fetch q_k16 33 = x_gf 36 4 4 := rfl
theorem t16_33 (C : xF) (s n : Nat) (z : xS) : x_to q_k16 C s (n + 1) 33 z = x_nx q_k16 C s n ((x_gf 36 4 4) C z) := x_to_at f16_33 C s n z
theorem f16_36 : x_fetch q_k16 36 = x_ldi 37 1 := rfl
theorem t16_36 (C : xF) (s n : Nat) (z : xS) : x_to q_k16 C s (n + 1) 36 z = x_nx q_k16 C s n ((x_ldi 37 1) C z) := x_to_at f16_36 C s n z
theorem f16_37 : x_fetch q_k16 37 = x_ast 38 0 (fun x => x) := rfl
theorem t16_37 (C : xF) (s n : Nat) (z : xS) : x_to q_k16 C s (n + 1) 37 z = x_nx q_k16 C s n ((x_ast 38 0 (fun x => x)) C z) := x_to_at f16_37 C s n z
theorem f16_38 : x_fetch q_k16 38 = x_lda 39 0 := rfl
theorem t16_38 (C : xF) (s n : Nat) (z : xS) : x_to q_k16 C s (n + 1) 38 z = x_nx q_k16 C s n ((x_lda 39 0) C z) := x_to_at f16_38 C s n z
theorem f16_39 : x_fetch q_k16 39 = x_st (x_dup 40) := rfl
theorem t16_39 (C : xF) (s n : Nat) (z : xS) : x_to q_k16 C s (n + 1) 39 z = x_nx q_k16 C s n ((x_st (x_dup 40)) C z) := x_to_at f16_39 C s n z
theorem f16_40 : x_fetch q_k16 40 = x_gf 43 4 4 := rfl
theorem t16_40 (C : xF) (s n : Nat) (z : xS) : x_to q_k16 C s (n + 1) 40 z = x_nx q_k16 C s n ((x_gf 43 4 4) C z) := x_to_at f16_40 C s n z
theorem f16_43 : x_fetch q_k16 43 = x_st (x_push 44 (.int (1))) := rfl
theorem t16_43 (C : xF) (s n : Nat) (z : xS) : x_to q_k16 C s (n + 1) 43 z = x_nx q_k16 C s n ((x_st (x_push 44 (.int (1)))) C z) := x_to_at f16_43 C s n z
theorem f16_44 : x_fetch q_k16 44 = x_st (x_bin 45 (fun a b => a + b)) := rfl
theorem t16_44 (C : xF) (s n : Nat) (z : xS) : x_to q_k16 C s (n + 1) 44 z = x_nx q_k16 C s n ((x_st (x_bin 45 (fun a b => a + b))) C z) := x_to_at f16_44 C s n z
theorem f16_45 : x_fetch q_k16 45 = x_pf 48 4 4 (.int) := rfl
theorem t16_45 (C : xF) (s n : Nat) (z : xS) : x_to q_k16 C s (n + 1) 45 z = x_nx q_k16 C s n ((x_pf 48 4 4 (.int)) C z) := x_to_at f16_45 C s n z
theorem f16_48 : x_fetch q_k16 48 = x_st (x_push 49 (.int (1))) := rfl
theorem t16_48 (C : xF) (s n : Nat) (z : xS) : x_to q_k16 C s (n + 1) 48 z = x_nx q_k16 C s n ((x_st (x_push 49 (.int (1)))) C z) := x_to_at f16_48 C s n z
theorem f16_49 : x_fetch q_k16 49 = x_ri (.boolean) := rfl
theorem t16_49 (C : xF) (s n : Nat) (z : xS) : x_to q_k16 C s (n + 1) 49 z = x_nx q_k16 C s n ((x_ri (.boolean)) C z) := x_to_at f16_49 C s n z
theorem f17_0 : x_fetch q_k17 0 = x_lda 1 0 := rfl
theorem t17_0 (C : xF) (s n : Nat) (z : xS) : x_to q_k17 C s (n + 1) 0 z = x_nx q_k17 C s n ((x_lda 1 0) C z) := x_to_at f17_0 C s n z
theorem f17_1 : x_fetch q_k17 1 = x_gf 4 4 3 := rfl
theorem t17_1 (C : xF) (s n : Nat) (z : xS) : x_to q_k17 C s (n + 1) 1 z = x_nx q_k17 C s n ((x_gf 4 4 3) C z) := x_to_at f17_1 C s n z
theorem f17_4 : x_fetch q_k17 4 = x_st (x_push 6 (.int (6))) := rfl
theorem t17_4 (C : xF) (s n : Nat) (z : xS) : x_to q_k17 C s (n + 1) 4 z = x_nx q_k17 C s n ((x_st (x_push 6 (.int (6)))) C z) := x_to_at f17_4 C s n z
theorem f17_6 : x_fetch q_k17 6 = x_st (x_icle 11 9) := rfl
theorem t17_6 (C : xF) (s n : Nat) (z : xS) : x_to q_k17 C s (n + 1) 6 z = x_nx q_k17 C s n ((x_st (x_icle 11 9)) C z) := x_to_at f17_6 C s n z
theorem f17_9 : x_fetch q_k17 9 = x_st (x_push 10 (.int (0))) := rfl
theorem t17_9 (C : xF) (s n : Nat) (z : xS) : x_to q_k17 C s (n + 1) 9 z = x_nx q_k17 C s n ((x_st (x_push 10 (.int (0)))) C z) := x_to_at f17_9 C s n z
theorem f17_10 : x_fetch q_k17 10 = x_ri (.boolean) := rfl
theorem t17_10 (C : xF) (s n : Nat) (z : xS) : x_to q_k17 C s (n + 1) 10 z = x_nx q_k17 C s n ((x_ri (.boolean)) C z) := x_to_at f17_10 C s n z
theorem f17_11 : x_fetch q_k17 11 = x_lda 12 0 := rfl
theorem t17_11 (C : xF) (s n : Nat) (z : xS) : x_to q_k17 C s (n + 1) 11 z = x_nx q_k17 C s n ((x_lda 12 0) C z) := x_to_at f17_11 C s n z
theorem f17_12 : x_fetch q_k17 12 = x_gf 15 4 1 := rfl
theorem t17_12 (C : xF) (s n : Nat) (z : xS) : x_to q_k17 C s (n + 1) 12 z = x_nx q_k17 C s n ((x_gf 15 4 1) C z) := x_to_at f17_12 C s n z
theorem f17_15 : x_fetch q_k17 15 = x_lda 16 0 := rfl
theorem t17_15 (C : xF) (s n : Nat) (z : xS) : x_to q_k17 C s (n + 1) 15 z = x_nx q_k17 C s n ((x_lda 16 0) C z) := x_to_at f17_15 C s n z
theorem f17_16 : x_fetch q_k17 16 = x_gf 19 4 3 := rfl
theorem t17_16 (C : xF) (s n : Nat) (z : xS) : x_to q_k17 C s (n + 1) 16 z = x_nx q_k17 C s n ((x_gf 19 4 3) C z) := x_to_at f17_16 C s n z
theorem f17_19 : x_fetch q_k17 19 = x_lda 20 0 := rfl
theorem t17_19 (C : xF) (s n : Nat) (z : xS) : x_to q_k17 C s (n + 1) 19 z = x_nx q_k17 C s n ((x_lda 20 0) C z) := x_to_at f17_19 C s n z
theorem f17_20 : x_fetch q_k17 20 = x_gf 23 4 4 := rfl
theorem t17_20 (C : xF) (s n : Nat) (z : xS) : x_to q_k17 C s (n + 1) 20 z = x_nx q_k17 C s n ((x_gf 23 4 4) C z) := x_to_at f17_20 C s n z
theorem f17_23 : x_fetch q_k17 23 = x_ast 24 0 (fun x => x) := rfl
theorem t17_23 (C : xF) (s n : Nat) (z : xS) : x_to q_k17 C s (n + 1) 23 z = x_nx q_k17 C s n ((x_ast 24 0 (fun x => x)) C z) := x_to_at f17_23 C s n z
theorem f17_24 : x_fetch q_k17 24 = x_st (x_push 25 (.int (0))) := rfl
theorem t17_24 (C : xF) (s n : Nat) (z : xS) : x_to q_k17 C s (n + 1) 24 z = x_nx q_k17 C s n ((x_st (x_push 25 (.int (0)))) C z) := x_to_at f17_24 C s n z
theorem f17_25 : x_fetch q_k17 25 = x_sti 26 1 := rfl
theorem t17_25 (C : xF) (s n : Nat) (z : xS) : x_to q_k17 C s (n + 1) 25 z = x_nx q_k17 C s n ((x_sti 26 1) C z) := x_to_at f17_25 C s n z
theorem f17_26 : x_fetch q_k17 26 = x_ldi 27 1 := rfl
theorem t17_26 (C : xF) (s n : Nat) (z : xS) : x_to q_k17 C s (n + 1) 26 z = x_nx q_k17 C s n ((x_ldi 27 1) C z) := x_to_at f17_26 C s n z
theorem f17_27 : x_fetch q_k17 27 = x_lda 28 0 := rfl
theorem t17_27 (C : xF) (s n : Nat) (z : xS) : x_to q_k17 C s (n + 1) 27 z = x_nx q_k17 C s n ((x_lda 28 0) C z) := x_to_at f17_27 C s n z
theorem f17_28 : x_fetch q_k17 28 = x_gf 31 4 3 := rfl
theorem t17_28 (C : xF) (s n : Nat) (z : xS) : x_to q_k17 C s (n + 1) 28 z = x_nx q_k17 C s n ((x_gf 31 4 3) C z) := x_to_at f17_28 C s n z
theorem f17_31 : x_fetch q_k17 31 = x_st (x_icge 80 34) := rfl
theorem t17_31 (C : xF) (s n : Nat) (z : xS) : x_to q_k17 C s (n + 1) 31 z = x_nx q_k17 C s n ((x_st (x_icge 80 34)) C z) := x_to_at f17_31 C s n z
theorem f17_34 : x_fetch q_k17 34 = x_lda 35 0 := rfl
theorem t17_34 (C : xF) (s n : Nat) (z : xS) : x_to q_k17 C s (n + 1) 34 z = x_nx q_k17 C s n ((x_lda 35 0) C z) := x_to_at f17_34 C s n z
theorem f17_35 : x_fetch q_k17 35 = x_gf 38 4 2 := rfl
theorem t17_35 (C : xF) (s n : Nat) (z : xS) : x_to q_k17 C s (n + 1) 35 z = x_nx q_k17 C s n ((x_gf 38 4 2) C z) := x_to_at f17_35 C s n z
theorem f17_38 : x_fetch q_k17 38 = x_ldi 39 1 := rfl
theorem t17_38 (C : xF) (s n : Nat) (z : xS) : x_to q_k17 C s (n + 1) 38 z = x_nx q_k17 C s n ((x_ldi 39 1) C z) := x_to_at f17_38 C s n z
theorem f17_39 : x_fetch q_k17 39 = x_ald 40 1 := rfl
theorem t17_39 (C : xF) (s n : Nat) (z : xS) : x_to q_k17 C s (n + 1) 39 z = x_nx q_k17 C s n ((x_ald 40 1) C z) := x_to_at f17_39 C s n z
theorem f17_40 : x_fetch q_k17 40 = x_lda 41 0 := rfl
theorem t17_40 (C : xF) (s n : Nat) (z : xS) : x_to q_k17 C s (n + 1) 40 z = x_nx q_k17 C s n ((x_lda 41 0) C z) := x_to_at f17_40 C s n z
theorem f17_41 : x_fetch q_k17 41 = x_gf 44 4 2 := rfl
theorem t17_41 (C : xF) (s n : Nat) (z : xS) : x_to q_k17 C s (n + 1) 41 z = x_nx q_k17 C s n ((x_gf 44 4 2) C z) := x_to_at f17_41 C s n z
theorem f17_44 : x_fetch q_k17 44 = x_lda 45 0 := rfl
theorem t17_44 (C : xF) (s n : Nat) (z : xS) : x_to q_k17 C s (n + 1) 44 z = x_nx q_k17 C s n ((x_lda 45 0) C z) := x_to_at f17_44 C s n z
theorem f17_45 : x_fetch q_k17 45 = x_gf 48 4 3 := rfl
theorem t17_45 (C : xF) (s n : Nat) (z : xS) : x_to q_k17 C s (n + 1) 45 z = x_nx q_k17 C s n ((x_gf 48 4 3) C z) := x_to_at f17_45 C s n z
theorem f17_48 : x_fetch q_k17 48 = x_ald 49 1 := rfl
theorem t17_48 (C : xF) (s n : Nat) (z : xS) : x_to q_k17 C s (n + 1) 48 z = x_nx q_k17 C s n ((x_ald 49 1) C z) := x_to_at f17_48 C s n z
theorem f17_49 : x_fetch q_k17 49 = x_st (x_icne 74 52) := rfl
theorem t17_49 (C : xF) (s n : Nat) (z : xS) : x_to q_k17 C s (n + 1) 49 z = x_nx q_k17 C s n ((x_st (x_icne 74 52)) C z) := x_to_at f17_49 C s n z
theorem f17_52 : x_fetch q_k17 52 = x_lda 53 0 := rfl
theorem t17_52 (C : xF) (s n : Nat) (z : xS) : x_to q_k17 C s (n + 1) 52 z = x_nx q_k17 C s n ((x_lda 53 0) C z) := x_to_at f17_52 C s n z
theorem f17_53 : x_fetch q_k17 53 = x_ldi 54 1 := rfl
theorem t17_53 (C : xF) (s n : Nat) (z : xS) : x_to q_k17 C s (n + 1) 53 z = x_nx q_k17 C s n ((x_ldi 54 1) C z) := x_to_at f17_53 C s n z
theorem f17_54 : x_fetch q_k17 54 = x_lda 55 0 := rfl
theorem t17_54 (C : xF) (s n : Nat) (z : xS) : x_to q_k17 C s (n + 1) 54 z = x_nx q_k17 C s n ((x_lda 55 0) C z) := x_to_at f17_54 C s n z
theorem f17_55 : x_fetch q_k17 55 = x_gf 58 4 3 := rfl
theorem t17_55 (C : xF) (s n : Nat) (z : xS) : x_to q_k17 C s (n + 1) 55 z = x_nx q_k17 C s n ((x_gf 58 4 3) C z) := x_to_at f17_55 C s n z
theorem f17_58 : x_fetch q_k17 58 = x_cv 61 18 3 4 := rfl
theorem t17_58 (C : xF) (s n : Nat) (z : xS) : x_to q_k17 C s (n + 1) 58 z = x_nx q_k17 C s n ((x_cv 61 18 3 4) C z) := x_to_at f17_58 C s n z
theorem f17_61 : x_fetch q_k17 61 = x_st (x_ifeq 74 64) := rfl
theorem t17_61 (C : xF) (s n : Nat) (z : xS) : x_to q_k17 C s (n + 1) 61 z = x_nx q_k17 C s n ((x_st (x_ifeq 74 64)) C z) := x_to_at f17_61 C s n z
theorem f17_64 : x_fetch q_k17 64 = x_lda 65 0 := rfl
theorem t17_64 (C : xF) (s n : Nat) (z : xS) : x_to q_k17 C s (n + 1) 64 z = x_nx q_k17 C s n ((x_lda 65 0) C z) := x_to_at f17_64 C s n z
theorem f17_65 : x_fetch q_k17 65 = x_lda 66 0 := rfl
theorem t17_65 (C : xF) (s n : Nat) (z : xS) : x_to q_k17 C s (n + 1) 65 z = x_nx q_k17 C s n ((x_lda 66 0) C z) := x_to_at f17_65 C s n z
theorem f17_66 : x_fetch q_k17 66 = x_gf 69 4 5 := rfl
theorem t17_66 (C : xF) (s n : Nat) (z : xS) : x_to q_k17 C s (n + 1) 66 z = x_nx q_k17 C s n ((x_gf 69 4 5) C z) := x_to_at f17_66 C s n z
theorem f17_69 : x_fetch q_k17 69 = x_pf 72 4 4 (.int) := rfl
theorem t17_69 (C : xF) (s n : Nat) (z : xS) : x_to q_k17 C s (n + 1) 69 z = x_nx q_k17 C s n ((x_pf 72 4 4 (.int)) C z) := x_to_at f17_69 C s n z
theorem f17_72 : x_fetch q_k17 72 = x_st (x_push 73 (.int (1))) := rfl
theorem t17_72 (C : xF) (s n : Nat) (z : xS) : x_to q_k17 C s (n + 1) 72 z = x_nx q_k17 C s n ((x_st (x_push 73 (.int (1)))) C z) := x_to_at f17_72 C s n z
theorem f17_73 : x_fetch q_k17 73 = x_ri (.boolean) := rfl
theorem t17_73 (C : xF) (s n : Nat) (z : xS) : x_to q_k17 C s (n + 1) 73 z = x_nx q_k17 C s n ((x_ri (.boolean)) C z) := x_to_at f17_73 C s n z
theorem f17_74 : x_fetch q_k17 74 = x_iinc 77 1 (1) := rfl
theorem t17_74 (C : xF) (s n : Nat) (z : xS) : x_to q_k17 C s (n + 1) 74 z = x_nx q_k17 C s n ((x_iinc 77 1 (1)) C z) := x_to_at f17_74 C s n z
theorem f17_77 : x_fetch q_k17 77 = x_st (x_goto 26) := rfl
theorem t17_77 (C : xF) (s n : Nat) (z : xS) : x_to q_k17 C s (n + 1) 77 z = x_nx q_k17 C s n ((x_st (x_goto 26)) C z) := x_to_at f17_77 C s n z
theorem f17_80 : x_fetch q_k17 80 = x_lda 81 0 := rfl
theorem t17_80 (C : xF) (s n : Nat) (z : xS) : x_to q_k17 C s (n + 1) 80 z = x_nx q_k17 C s n ((x_lda 81 0) C z) := x_to_at f17_80 C s n z
theorem f17_81 : x_fetch q_k17 81 = x_st (x_dup 82) := rfl
theorem t17_81 (C : xF) (s n : Nat) (z : xS) : x_to q_k17 C s (n + 1) 81 z = x_nx q_k17 C s n ((x_st (x_dup 82)) C z) := x_to_at f17_81 C s n z
theorem f17_82 : x_fetch q_k17 82 = x_gf 85 4 3 := rfl
theorem t17_82 (C : xF) (s n : Nat) (z : xS) : x_to q_k17 C s (n + 1) 82 z = x_nx q_k17 C s n ((x_gf 85 4 3) C z) := x_to_at f17_82 C s n z
theorem f17_85 : x_fetch q_k17 85 = x_st (x_push 86 (.int (1))) := rfl
theorem t17_85 (C : xF) (s n : Nat) (z : xS) : x_to q_k17 C s (n + 1) 85 z = x_nx q_k17 C s n ((x_st (x_push 86 (.int (1)))) C z) := x_to_at f17_85 C s n z
theorem f17_86 : x_fetch q_k17 86 = x_st (x_bin 87 (fun a b => a + b)) := rfl
theorem t17_86 (C : xF) (s n : Nat) (z : xS) : x_to q_k17 C s (n + 1) 86 z = x_nx q_k17 C s n ((x_st (x_bin 87 (fun a b => a + b))) C z) := x_to_at f17_86 C s n z
theorem f17_87 : x_fetch q_k17 87 = x_pf 90 4 3 (.int) := rfl
theorem t17_87 (C : xF) (s n : Nat) (z : xS) : x_to q_k17 C s (n + 1) 87 z = x_nx q_k17 C s n ((x_pf 90 4 3 (.int)) C z) := x_to_at f17_87 C s n z
theorem f17_90 : x_fetch q_k17 90 = x_lda 91 0 := rfl
theorem t17_90 (C : xF) (s n : Nat) (z : xS) : x_to q_k17 C s (n + 1) 90 z = x_nx q_k17 C s n ((x_lda 91 0) C z) := x_to_at f17_90 C s n z
theorem f17_91 : x_fetch q_k17 91 = x_gf 94 4 3 := rfl
theorem t17_91 (C : xF) (s n : Nat) (z : xS) : x_to q_k17 C s (n + 1) 91 z = x_nx q_k17 C s n ((x_gf 94 4 3) C z) := x_to_at f17_91 C s n z
theorem f17_94 : x_fetch q_k17 94 = x_st (x_push 96 (.int (6))) := rfl
theorem t17_94 (C : xF) (s n : Nat) (z : xS) : x_to q_k17 C s (n + 1) 94 z = x_nx q_k17 C s n ((x_st (x_push 96 (.int (6)))) C z) := x_to_at f17_94 C s n z
theorem f17_96 : x_fetch q_k17 96 = x_st (x_icgt 112 99) := rfl
theorem t17_96 (C : xF) (s n : Nat) (z : xS) : x_to q_k17 C s (n + 1) 96 z = x_nx q_k17 C s n ((x_st (x_icgt 112 99)) C z) := x_to_at f17_96 C s n z
theorem f17_99 : x_fetch q_k17 99 = x_lda 100 0 := rfl
theorem t17_99 (C : xF) (s n : Nat) (z : xS) : x_to q_k17 C s (n + 1) 99 z = x_nx q_k17 C s n ((x_lda 100 0) C z) := x_to_at f17_99 C s n z
theorem f17_100 : x_fetch q_k17 100 = x_gf 103 4 4 := rfl
theorem t17_100 (C : xF) (s n : Nat) (z : xS) : x_to q_k17 C s (n + 1) 100 z = x_nx q_k17 C s n ((x_gf 103 4 4) C z) := x_to_at f17_100 C s n z
theorem f17_103 : x_fetch q_k17 103 = x_st (x_push 105 (.int (40))) := rfl
theorem t17_103 (C : xF) (s n : Nat) (z : xS) : x_to q_k17 C s (n + 1) 103 z = x_nx q_k17 C s n ((x_st (x_push 105 (.int (40)))) C z) := x_to_at f17_103 C s n z
theorem f17_105 : x_fetch q_k17 105 = x_st (x_icgt 112 108) := rfl
theorem t17_105 (C : xF) (s n : Nat) (z : xS) : x_to q_k17 C s (n + 1) 105 z = x_nx q_k17 C s n ((x_st (x_icgt 112 108)) C z) := x_to_at f17_105 C s n z
theorem f17_108 : x_fetch q_k17 108 = x_st (x_push 109 (.int (1))) := rfl
theorem t17_108 (C : xF) (s n : Nat) (z : xS) : x_to q_k17 C s (n + 1) 108 z = x_nx q_k17 C s n ((x_st (x_push 109 (.int (1)))) C z) := x_to_at f17_108 C s n z
theorem f17_109 : x_fetch q_k17 109 = x_st (x_goto 113) := rfl
theorem t17_109 (C : xF) (s n : Nat) (z : xS) : x_to q_k17 C s (n + 1) 109 z = x_nx q_k17 C s n ((x_st (x_goto 113)) C z) := x_to_at f17_109 C s n z
theorem f17_112 : x_fetch q_k17 112 = x_st (x_push 113 (.int (0))) := rfl
theorem t17_112 (C : xF) (s n : Nat) (z : xS) : x_to q_k17 C s (n + 1) 112 z = x_nx q_k17 C s n ((x_st (x_push 113 (.int (0)))) C z) := x_to_at f17_112 C s n z
theorem f17_113 : x_fetch q_k17 113 = x_ri (.boolean) := rfl
theorem t17_113 (C : xF) (s n : Nat) (z : xS) : x_to q_k17 C s (n + 1) 113 z = x_nx q_k17 C s n ((x_ri (.boolean)) C z) := x_to_at f17_113 C s n z
theorem f18_0 : x_fetch q_k18 0 = x_lda 1 0 := rfl
theorem t18_0 (C : xF) (s n : Nat) (z : xS) : x_to q_k18 C s (n + 1) 0 z = x_nx q_k18 C s n ((x_lda 1 0) C z) := x_to_at f18_0 C s n z
theorem f18_1 : x_fetch q_k18 1 = x_ldi 2 1 := rfl
theorem t18_1 (C : xF) (s n : Nat) (z : xS) : x_to q_k18 C s (n + 1) 1 z = x_nx q_k18 C s n ((x_ldi 2 1) C z) := x_to_at f18_1 C s n z
theorem f18_2 : x_fetch q_k18 2 = x_cv 5 11 2 4 := rfl
theorem t18_2 (C : xF) (s n : Nat) (z : xS) : x_to q_k18 C s (n + 1) 2 z = x_nx q_k18 C s n ((x_cv 5 11 2 4) C z) := x_to_at f18_2 C s n z
theorem f18_5 : x_fetch q_k18 5 = x_sti 6 3 := rfl
theorem t18_5 (C : xF) (s n : Nat) (z : xS) : x_to q_k18 C s (n + 1) 5 z = x_nx q_k18 C s n ((x_sti 6 3) C z) := x_to_at f18_5 C s n z
theorem f18_6 : x_fetch q_k18 6 = x_lda 7 0 := rfl
theorem t18_6 (C : xF) (s n : Nat) (z : xS) : x_to q_k18 C s (n + 1) 6 z = x_nx q_k18 C s n ((x_lda 7 0) C z) := x_to_at f18_6 C s n z
theorem f18_7 : x_fetch q_k18 7 = x_ldi 8 2 := rfl
theorem t18_7 (C : xF) (s n : Nat) (z : xS) : x_to q_k18 C s (n + 1) 7 z = x_nx q_k18 C s n ((x_ldi 8 2) C z) := x_to_at f18_7 C s n z
theorem f18_8 : x_fetch q_k18 8 = x_cv 11 11 2 4 := rfl
theorem t18_8 (C : xF) (s n : Nat) (z : xS) : x_to q_k18 C s (n + 1) 8 z = x_nx q_k18 C s n ((x_cv 11 11 2 4) C z) := x_to_at f18_8 C s n z
theorem f18_11 : x_fetch q_k18 11 = x_sti 13 4 := rfl
theorem t18_11 (C : xF) (s n : Nat) (z : xS) : x_to q_k18 C s (n + 1) 11 z = x_nx q_k18 C s n ((x_sti 13 4) C z) := x_to_at f18_11 C s n z
theorem f18_13 : x_fetch q_k18 13 = x_lda 14 0 := rfl
theorem t18_13 (C : xF) (s n : Nat) (z : xS) : x_to q_k18 C s (n + 1) 13 z = x_nx q_k18 C s n ((x_lda 14 0) C z) := x_to_at f18_13 C s n z
theorem f18_14 : x_fetch q_k18 14 = x_gf 17 4 1 := rfl
theorem t18_14 (C : xF) (s n : Nat) (z : xS) : x_to q_k18 C s (n + 1) 14 z = x_nx q_k18 C s n ((x_gf 17 4 1) C z) := x_to_at f18_14 C s n z
theorem f18_17 : x_fetch q_k18 17 = x_ldi 18 1 := rfl
theorem t18_17 (C : xF) (s n : Nat) (z : xS) : x_to q_k18 C s (n + 1) 17 z = x_nx q_k18 C s n ((x_ldi 18 1) C z) := x_to_at f18_17 C s n z
theorem f18_18 : x_fetch q_k18 18 = x_ald 19 0 := rfl
theorem t18_18 (C : xF) (s n : Nat) (z : xS) : x_to q_k18 C s (n + 1) 18 z = x_nx q_k18 C s n ((x_ald 19 0) C z) := x_to_at f18_18 C s n z
theorem f18_19 : x_fetch q_k18 19 = x_ldi 20 3 := rfl
theorem t18_19 (C : xF) (s n : Nat) (z : xS) : x_to q_k18 C s (n + 1) 19 z = x_nx q_k18 C s n ((x_ldi 20 3) C z) := x_to_at f18_19 C s n z
theorem f18_20 : x_fetch q_k18 20 = x_st (x_bin 21 (fun a b => a - b)) := rfl
theorem t18_20 (C : xF) (s n : Nat) (z : xS) : x_to q_k18 C s (n + 1) 20 z = x_nx q_k18 C s n ((x_st (x_bin 21 (fun a b => a - b))) C z) := x_to_at f18_20 C s n z
theorem f18_21 : x_fetch q_k18 21 = x_lda 22 0 := rfl
theorem t18_21 (C : xF) (s n : Nat) (z : xS) : x_to q_k18 C s (n + 1) 21 z = x_nx q_k18 C s n ((x_lda 22 0) C z) := x_to_at f18_21 C s n z
theorem f18_22 : x_fetch q_k18 22 = x_gf 25 4 1 := rfl
theorem t18_22 (C : xF) (s n : Nat) (z : xS) : x_to q_k18 C s (n + 1) 22 z = x_nx q_k18 C s n ((x_gf 25 4 1) C z) := x_to_at f18_22 C s n z
theorem f18_25 : x_fetch q_k18 25 = x_ldi 26 2 := rfl
theorem t18_25 (C : xF) (s n : Nat) (z : xS) : x_to q_k18 C s (n + 1) 25 z = x_nx q_k18 C s n ((x_ldi 26 2) C z) := x_to_at f18_25 C s n z
theorem f18_26 : x_fetch q_k18 26 = x_ald 27 0 := rfl
theorem t18_26 (C : xF) (s n : Nat) (z : xS) : x_to q_k18 C s (n + 1) 26 z = x_nx q_k18 C s n ((x_ald 27 0) C z) := x_to_at f18_26 C s n z
theorem f18_27 : x_fetch q_k18 27 = x_ldi 29 4 := rfl
theorem t18_27 (C : xF) (s n : Nat) (z : xS) : x_to q_k18 C s (n + 1) 27 z = x_nx q_k18 C s n ((x_ldi 29 4) C z) := x_to_at f18_27 C s n z
theorem f18_29 : x_fetch q_k18 29 = x_st (x_bin 30 (fun a b => a - b)) := rfl
theorem t18_29 (C : xF) (s n : Nat) (z : xS) : x_to q_k18 C s (n + 1) 29 z = x_nx q_k18 C s n ((x_st (x_bin 30 (fun a b => a - b))) C z) := x_to_at f18_29 C s n z
theorem f18_30 : x_fetch q_k18 30 = x_st (x_icne 55 33) := rfl
theorem t18_30 (C : xF) (s n : Nat) (z : xS) : x_to q_k18 C s (n + 1) 30 z = x_nx q_k18 C s n ((x_st (x_icne 55 33)) C z) := x_to_at f18_30 C s n z
theorem f18_33 : x_fetch q_k18 33 = x_lda 34 0 := rfl
theorem t18_33 (C : xF) (s n : Nat) (z : xS) : x_to q_k18 C s (n + 1) 33 z = x_nx q_k18 C s n ((x_lda 34 0) C z) := x_to_at f18_33 C s n z
theorem f18_34 : x_fetch q_k18 34 = x_ldi 35 3 := rfl
theorem t18_34 (C : xF) (s n : Nat) (z : xS) : x_to q_k18 C s (n + 1) 34 z = x_nx q_k18 C s n ((x_ldi 35 3) C z) := x_to_at f18_34 C s n z
theorem f18_35 : x_fetch q_k18 35 = x_ldi 37 4 := rfl
theorem t18_35 (C : xF) (s n : Nat) (z : xS) : x_to q_k18 C s (n + 1) 35 z = x_nx q_k18 C s n ((x_ldi 37 4) C z) := x_to_at f18_35 C s n z
theorem f18_37 : x_fetch q_k18 37 = x_lda 38 0 := rfl
theorem t18_37 (C : xF) (s n : Nat) (z : xS) : x_to q_k18 C s (n + 1) 37 z = x_nx q_k18 C s n ((x_lda 38 0) C z) := x_to_at f18_37 C s n z
theorem f18_38 : x_fetch q_k18 38 = x_gf 41 4 1 := rfl
theorem t18_38 (C : xF) (s n : Nat) (z : xS) : x_to q_k18 C s (n + 1) 38 z = x_nx q_k18 C s n ((x_gf 41 4 1) C z) := x_to_at f18_38 C s n z
theorem f18_41 : x_fetch q_k18 41 = x_ldi 42 1 := rfl
theorem t18_41 (C : xF) (s n : Nat) (z : xS) : x_to q_k18 C s (n + 1) 41 z = x_nx q_k18 C s n ((x_ldi 42 1) C z) := x_to_at f18_41 C s n z
theorem f18_42 : x_fetch q_k18 42 = x_ald 43 0 := rfl
theorem t18_42 (C : xF) (s n : Nat) (z : xS) : x_to q_k18 C s (n + 1) 42 z = x_nx q_k18 C s n ((x_ald 43 0) C z) := x_to_at f18_42 C s n z
theorem f18_43 : x_fetch q_k18 43 = x_ldi 44 3 := rfl
theorem t18_43 (C : xF) (s n : Nat) (z : xS) : x_to q_k18 C s (n + 1) 43 z = x_nx q_k18 C s n ((x_ldi 44 3) C z) := x_to_at f18_43 C s n z
theorem f18_44 : x_fetch q_k18 44 = x_st (x_bin 45 (fun a b => a - b)) := rfl
theorem t18_44 (C : xF) (s n : Nat) (z : xS) : x_to q_k18 C s (n + 1) 44 z = x_nx q_k18 C s n ((x_st (x_bin 45 (fun a b => a - b))) C z) := x_to_at f18_44 C s n z
theorem f18_45 : x_fetch q_k18 45 = x_cv 48 19 4 4 := rfl
theorem t18_45 (C : xF) (s n : Nat) (z : xS) : x_to q_k18 C s (n + 1) 45 z = x_nx q_k18 C s n ((x_cv 48 19 4 4) C z) := x_to_at f18_45 C s n z
theorem f18_48 : x_fetch q_k18 48 = x_st (x_ifeq 55 51) := rfl
theorem t18_48 (C : xF) (s n : Nat) (z : xS) : x_to q_k18 C s (n + 1) 48 z = x_nx q_k18 C s n ((x_st (x_ifeq 55 51)) C z) := x_to_at f18_48 C s n z
theorem f18_51 : x_fetch q_k18 51 = x_st (x_push 52 (.int (1))) := rfl
theorem t18_51 (C : xF) (s n : Nat) (z : xS) : x_to q_k18 C s (n + 1) 51 z = x_nx q_k18 C s n ((x_st (x_push 52 (.int (1)))) C z) := x_to_at f18_51 C s n z
theorem f18_52 : x_fetch q_k18 52 = x_st (x_goto 56) := rfl
theorem t18_52 (C : xF) (s n : Nat) (z : xS) : x_to q_k18 C s (n + 1) 52 z = x_nx q_k18 C s n ((x_st (x_goto 56)) C z) := x_to_at f18_52 C s n z
theorem f18_55 : x_fetch q_k18 55 = x_st (x_push 56 (.int (0))) := rfl
theorem t18_55 (C : xF) (s n : Nat) (z : xS) : x_to q_k18 C s (n + 1) 55 z = x_nx q_k18 C s n ((x_st (x_push 56 (.int (0)))) C z) := x_to_at f18_55 C s n z
theorem f18_56 : x_fetch q_k18 56 = x_ri (.boolean) := rfl
theorem t18_56 (C : xF) (s n : Nat) (z : xS) : x_to q_k18 C s (n + 1) 56 z = x_nx q_k18 C s n ((x_ri (.boolean)) C z) := x_to_at f18_56 C s n z
theorem f19_0 : x_fetch q_k19 0 = x_ldi 1 1 := rfl
theorem t19_0 (C : xF) (s n : Nat) (z : xS) : x_to q_k19 C s (n + 1) 0 z = x_nx q_k19 C s n ((x_ldi 1 1) C z) := x_to_at f19_0 C s n z
theorem f19_1 : x_fetch q_k19 1 = x_ldi 2 3 := rfl
theorem t19_1 (C : xF) (s n : Nat) (z : xS) : x_to q_k19 C s (n + 1) 1 z = x_nx q_k19 C s n ((x_ldi 2 3) C z) := x_to_at f19_1 C s n z
theorem f19_2 : x_fetch q_k19 2 = x_st (x_bin 3 (fun a b => a + b)) := rfl
theorem t19_2 (C : xF) (s n : Nat) (z : xS) : x_to q_k19 C s (n + 1) 2 z = x_nx q_k19 C s n ((x_st (x_bin 3 (fun a b => a + b))) C z) := x_to_at f19_2 C s n z
theorem f19_3 : x_fetch q_k19 3 = x_lda 4 0 := rfl
theorem t19_3 (C : xF) (s n : Nat) (z : xS) : x_to q_k19 C s (n + 1) 3 z = x_nx q_k19 C s n ((x_lda 4 0) C z) := x_to_at f19_3 C s n z
theorem f19_4 : x_fetch q_k19 4 = x_gf 7 4 4 := rfl
theorem t19_4 (C : xF) (s n : Nat) (z : xS) : x_to q_k19 C s (n + 1) 4 z = x_nx q_k19 C s n ((x_gf 7 4 4) C z) := x_to_at f19_4 C s n z
theorem f19_7 : x_fetch q_k19 7 = x_st (x_icgt 20 10) := rfl
theorem t19_7 (C : xF) (s n : Nat) (z : xS) : x_to q_k19 C s (n + 1) 7 z = x_nx q_k19 C s n ((x_st (x_icgt 20 10)) C z) := x_to_at f19_7 C s n z
theorem f19_10 : x_fetch q_k19 10 = x_ldi 11 2 := rfl
theorem t19_10 (C : xF) (s n : Nat) (z : xS) : x_to q_k19 C s (n + 1) 10 z = x_nx q_k19 C s n ((x_ldi 11 2) C z) := x_to_at f19_10 C s n z
theorem f19_11 : x_fetch q_k19 11 = x_ldi 12 3 := rfl
theorem t19_11 (C : xF) (s n : Nat) (z : xS) : x_to q_k19 C s (n + 1) 11 z = x_nx q_k19 C s n ((x_ldi 12 3) C z) := x_to_at f19_11 C s n z
theorem f19_12 : x_fetch q_k19 12 = x_st (x_bin 13 (fun a b => a + b)) := rfl
theorem t19_12 (C : xF) (s n : Nat) (z : xS) : x_to q_k19 C s (n + 1) 12 z = x_nx q_k19 C s n ((x_st (x_bin 13 (fun a b => a + b))) C z) := x_to_at f19_12 C s n z
theorem f19_13 : x_fetch q_k19 13 = x_lda 14 0 := rfl
theorem t19_13 (C : xF) (s n : Nat) (z : xS) : x_to q_k19 C s (n + 1) 13 z = x_nx q_k19 C s n ((x_lda 14 0) C z) := x_to_at f19_13 C s n z
theorem f19_14 : x_fetch q_k19 14 = x_gf 17 4 4 := rfl
theorem t19_14 (C : xF) (s n : Nat) (z : xS) : x_to q_k19 C s (n + 1) 14 z = x_nx q_k19 C s n ((x_gf 17 4 4) C z) := x_to_at f19_14 C s n z
theorem f19_17 : x_fetch q_k19 17 = x_st (x_icle 22 20) := rfl
theorem t19_17 (C : xF) (s n : Nat) (z : xS) : x_to q_k19 C s (n + 1) 17 z = x_nx q_k19 C s n ((x_st (x_icle 22 20)) C z) := x_to_at f19_17 C s n z
theorem f19_20 : x_fetch q_k19 20 = x_st (x_push 21 (.int (0))) := rfl
theorem t19_20 (C : xF) (s n : Nat) (z : xS) : x_to q_k19 C s (n + 1) 20 z = x_nx q_k19 C s n ((x_st (x_push 21 (.int (0)))) C z) := x_to_at f19_20 C s n z
theorem f19_21 : x_fetch q_k19 21 = x_ri (.boolean) := rfl
theorem t19_21 (C : xF) (s n : Nat) (z : xS) : x_to q_k19 C s (n + 1) 21 z = x_nx q_k19 C s n ((x_ri (.boolean)) C z) := x_to_at f19_21 C s n z
theorem f19_22 : x_fetch q_k19 22 = x_st (x_push 23 (.int (0))) := rfl
theorem t19_22 (C : xF) (s n : Nat) (z : xS) : x_to q_k19 C s (n + 1) 22 z = x_nx q_k19 C s n ((x_st (x_push 23 (.int (0)))) C z) := x_to_at f19_22 C s n z
theorem f19_23 : x_fetch q_k19 23 = x_sti 25 4 := rfl
theorem t19_23 (C : xF) (s n : Nat) (z : xS) : x_to q_k19 C s (n + 1) 23 z = x_nx q_k19 C s n ((x_sti 25 4) C z) := x_to_at f19_23 C s n z
theorem f19_25 : x_fetch q_k19 25 = x_ldi 27 4 := rfl
theorem t19_25 (C : xF) (s n : Nat) (z : xS) : x_to q_k19 C s (n + 1) 25 z = x_nx q_k19 C s n ((x_ldi 27 4) C z) := x_to_at f19_25 C s n z
theorem f19_27 : x_fetch q_k19 27 = x_ldi 28 3 := rfl
theorem t19_27 (C : xF) (s n : Nat) (z : xS) : x_to q_k19 C s (n + 1) 27 z = x_nx q_k19 C s n ((x_ldi 28 3) C z) := x_to_at f19_27 C s n z
theorem f19_28 : x_fetch q_k19 28 = x_st (x_icge 60 31) := rfl
theorem t19_28 (C : xF) (s n : Nat) (z : xS) : x_to q_k19 C s (n + 1) 28 z = x_nx q_k19 C s n ((x_st (x_icge 60 31)) C z) := x_to_at f19_28 C s n z
theorem f19_31 : x_fetch q_k19 31 = x_lda 32 0 := rfl
theorem t19_31 (C : xF) (s n : Nat) (z : xS) : x_to q_k19 C s (n + 1) 31 z = x_nx q_k19 C s n ((x_lda 32 0) C z) := x_to_at f19_31 C s n z
theorem f19_32 : x_fetch q_k19 32 = x_gf 35 4 0 := rfl
theorem t19_32 (C : xF) (s n : Nat) (z : xS) : x_to q_k19 C s (n + 1) 32 z = x_nx q_k19 C s n ((x_gf 35 4 0) C z) := x_to_at f19_32 C s n z
theorem f19_35 : x_fetch q_k19 35 = x_ldi 36 1 := rfl
theorem t19_35 (C : xF) (s n : Nat) (z : xS) : x_to q_k19 C s (n + 1) 35 z = x_nx q_k19 C s n ((x_ldi 36 1) C z) := x_to_at f19_35 C s n z
theorem f19_36 : x_fetch q_k19 36 = x_ldi 38 4 := rfl
theorem t19_36 (C : xF) (s n : Nat) (z : xS) : x_to q_k19 C s (n + 1) 36 z = x_nx q_k19 C s n ((x_ldi 38 4) C z) := x_to_at f19_36 C s n z
theorem f19_38 : x_fetch q_k19 38 = x_st (x_bin 39 (fun a b => a + b)) := rfl
theorem t19_38 (C : xF) (s n : Nat) (z : xS) : x_to q_k19 C s (n + 1) 38 z = x_nx q_k19 C s n ((x_st (x_bin 39 (fun a b => a + b))) C z) := x_to_at f19_38 C s n z
theorem f19_39 : x_fetch q_k19 39 = x_ald 40 0 := rfl
theorem t19_39 (C : xF) (s n : Nat) (z : xS) : x_to q_k19 C s (n + 1) 39 z = x_nx q_k19 C s n ((x_ald 40 0) C z) := x_to_at f19_39 C s n z
theorem f19_40 : x_fetch q_k19 40 = x_lda 41 0 := rfl
theorem t19_40 (C : xF) (s n : Nat) (z : xS) : x_to q_k19 C s (n + 1) 40 z = x_nx q_k19 C s n ((x_lda 41 0) C z) := x_to_at f19_40 C s n z
theorem f19_41 : x_fetch q_k19 41 = x_gf 44 4 0 := rfl
theorem t19_41 (C : xF) (s n : Nat) (z : xS) : x_to q_k19 C s (n + 1) 41 z = x_nx q_k19 C s n ((x_gf 44 4 0) C z) := x_to_at f19_41 C s n z
theorem f19_44 : x_fetch q_k19 44 = x_ldi 45 2 := rfl
theorem t19_44 (C : xF) (s n : Nat) (z : xS) : x_to q_k19 C s (n + 1) 44 z = x_nx q_k19 C s n ((x_ldi 45 2) C z) := x_to_at f19_44 C s n z
theorem f19_45 : x_fetch q_k19 45 = x_ldi 47 4 := rfl
theorem t19_45 (C : xF) (s n : Nat) (z : xS) : x_to q_k19 C s (n + 1) 45 z = x_nx q_k19 C s n ((x_ldi 47 4) C z) := x_to_at f19_45 C s n z
theorem f19_47 : x_fetch q_k19 47 = x_st (x_bin 48 (fun a b => a + b)) := rfl
theorem t19_47 (C : xF) (s n : Nat) (z : xS) : x_to q_k19 C s (n + 1) 47 z = x_nx q_k19 C s n ((x_st (x_bin 48 (fun a b => a + b))) C z) := x_to_at f19_47 C s n z
theorem f19_48 : x_fetch q_k19 48 = x_ald 49 0 := rfl
theorem t19_48 (C : xF) (s n : Nat) (z : xS) : x_to q_k19 C s (n + 1) 48 z = x_nx q_k19 C s n ((x_ald 49 0) C z) := x_to_at f19_48 C s n z
theorem f19_49 : x_fetch q_k19 49 = x_st (x_iceq 54 52) := rfl
theorem t19_49 (C : xF) (s n : Nat) (z : xS) : x_to q_k19 C s (n + 1) 49 z = x_nx q_k19 C s n ((x_st (x_iceq 54 52)) C z) := x_to_at f19_49 C s n z
theorem f19_52 : x_fetch q_k19 52 = x_st (x_push 53 (.int (0))) := rfl
theorem t19_52 (C : xF) (s n : Nat) (z : xS) : x_to q_k19 C s (n + 1) 52 z = x_nx q_k19 C s n ((x_st (x_push 53 (.int (0)))) C z) := x_to_at f19_52 C s n z
theorem f19_53 : x_fetch q_k19 53 = x_ri (.boolean) := rfl
theorem t19_53 (C : xF) (s n : Nat) (z : xS) : x_to q_k19 C s (n + 1) 53 z = x_nx q_k19 C s n ((x_ri (.boolean)) C z) := x_to_at f19_53 C s n z
theorem f19_54 : x_fetch q_k19 54 = x_iinc 57 4 (1) := rfl
theorem t19_54 (C : xF) (s n : Nat) (z : xS) : x_to q_k19 C s (n + 1) 54 z = x_nx q_k19 C s n ((x_iinc 57 4 (1)) C z) := x_to_at f19_54 C s n z
theorem f19_57 : x_fetch q_k19 57 = x_st (x_goto 25) := rfl
theorem t19_57 (C : xF) (s n : Nat) (z : xS) : x_to q_k19 C s (n + 1) 57 z = x_nx q_k19 C s n ((x_st (x_goto 25)) C z) := x_to_at f19_57 C s n z
theorem f19_60 : x_fetch q_k19 60 = x_st (x_push 61 (.int (1))) := rfl
theorem t19_60 (C : xF) (s n : Nat) (z : xS) : x_to q_k19 C s (n + 1) 60 z = x_nx q_k19 C s n ((x_st (x_push 61 (.int (1)))) C z) := x_to_at f19_60 C s n z
theorem f19_61 : x_fetch q_k19 61 = x_ri (.boolean) := rfl
theorem t19_61 (C : xF) (s n : Nat) (z : xS) : x_to q_k19 C s (n + 1) 61 z = x_nx q_k19 C s n ((x_ri (.boolean)) C z) := x_to_at f19_61 C s n z
theorem f20_0 : x_fetch q_k20 0 = x_st (x_push 1 (.int (1))) := rfl
theorem t20_0 (C : xF) (s n : Nat) (z : xS) : x_to q_k20 C s (n + 1) 0 z = x_nx q_k20 C s n ((x_st (x_push 1 (.int (1)))) C z) := x_to_at f20_0 C s n z
theorem f20_1 : x_fetch q_k20 1 = x_sti 2 2 := rfl
theorem t20_1 (C : xF) (s n : Nat) (z : xS) : x_to q_k20 C s (n + 1) 1 z = x_nx q_k20 C s n ((x_sti 2 2) C z) := x_to_at f20_1 C s n z
theorem f20_2 : x_fetch q_k20 2 = x_ldi 3 1 := rfl
theorem t20_2 (C : xF) (s n : Nat) (z : xS) : x_to q_k20 C s (n + 1) 2 z = x_nx q_k20 C s n ((x_ldi 3 1) C z) := x_to_at f20_2 C s n z
theorem f20_3 : x_fetch q_k20 3 = x_sti 4 3 := rfl
theorem t20_3 (C : xF) (s n : Nat) (z : xS) : x_to q_k20 C s (n + 1) 3 z = x_nx q_k20 C s n ((x_sti 4 3) C z) := x_to_at f20_3 C s n z
theorem f20_4 : x_fetch q_k20 4 = x_ldi 5 3 := rfl
theorem t20_4 (C : xF) (s n : Nat) (z : xS) : x_to q_k20 C s (n + 1) 4 z = x_nx q_k20 C s n ((x_ldi 5 3) C z) := x_to_at f20_4 C s n z
theorem f20_5 : x_fetch q_k20 5 = x_lda 6 0 := rfl
theorem t20_5 (C : xF) (s n : Nat) (z : xS) : x_to q_k20 C s (n + 1) 5 z = x_nx q_k20 C s n ((x_lda 6 0) C z) := x_to_at f20_5 C s n z
theorem f20_6 : x_fetch q_k20 6 = x_gf 9 4 4 := rfl
theorem t20_6 (C : xF) (s n : Nat) (z : xS) : x_to q_k20 C s (n + 1) 6 z = x_nx q_k20 C s n ((x_gf 9 4 4) C z) := x_to_at f20_6 C s n z
theorem f20_9 : x_fetch q_k20 9 = x_st (x_icge 36 12) := rfl
theorem t20_9 (C : xF) (s n : Nat) (z : xS) : x_to q_k20 C s (n + 1) 9 z = x_nx q_k20 C s n ((x_st (x_icge 36 12)) C z) := x_to_at f20_9 C s n z
theorem f20_12 : x_fetch q_k20 12 = x_ldi 13 2 := rfl
theorem t20_12 (C : xF) (s n : Nat) (z : xS) : x_to q_k20 C s (n + 1) 12 z = x_nx q_k20 C s n ((x_ldi 13 2) C z) := x_to_at f20_12 C s n z
theorem f20_13 : x_fetch q_k20 13 = x_st (x_ifle 36 16) := rfl
theorem t20_13 (C : xF) (s n : Nat) (z : xS) : x_to q_k20 C s (n + 1) 13 z = x_nx q_k20 C s n ((x_st (x_ifle 36 16)) C z) := x_to_at f20_13 C s n z
theorem f20_16 : x_fetch q_k20 16 = x_ldi 17 2 := rfl
theorem t20_16 (C : xF) (s n : Nat) (z : xS) : x_to q_k20 C s (n + 1) 16 z = x_nx q_k20 C s n ((x_ldi 17 2) C z) := x_to_at f20_16 C s n z
theorem f20_17 : x_fetch q_k20 17 = x_lda 18 0 := rfl
theorem t20_17 (C : xF) (s n : Nat) (z : xS) : x_to q_k20 C s (n + 1) 17 z = x_nx q_k20 C s n ((x_lda 18 0) C z) := x_to_at f20_17 C s n z
theorem f20_18 : x_fetch q_k20 18 = x_gf 21 4 0 := rfl
theorem t20_18 (C : xF) (s n : Nat) (z : xS) : x_to q_k20 C s (n + 1) 18 z = x_nx q_k20 C s n ((x_gf 21 4 0) C z) := x_to_at f20_18 C s n z
theorem f20_21 : x_fetch q_k20 21 = x_ldi 22 3 := rfl
theorem t20_21 (C : xF) (s n : Nat) (z : xS) : x_to q_k20 C s (n + 1) 21 z = x_nx q_k20 C s n ((x_ldi 22 3) C z) := x_to_at f20_21 C s n z
theorem f20_22 : x_fetch q_k20 22 = x_ald 23 0 := rfl
theorem t20_22 (C : xF) (s n : Nat) (z : xS) : x_to q_k20 C s (n + 1) 22 z = x_nx q_k20 C s n ((x_ald 23 0) C z) := x_to_at f20_22 C s n z
theorem f20_23 : x_fetch q_k20 23 = x_cl_ 26 5 1 := rfl
theorem t20_23 (C : xF) (s n : Nat) (z : xS) : x_to q_k20 C s (n + 1) 23 z = x_nx q_k20 C s n ((x_cl_ 26 5 1) C z) := x_to_at f20_23 C s n z
theorem f20_26 : x_fetch q_k20 26 = x_st (x_push 27 (.int (1))) := rfl
theorem t20_26 (C : xF) (s n : Nat) (z : xS) : x_to q_k20 C s (n + 1) 26 z = x_nx q_k20 C s n ((x_st (x_push 27 (.int (1)))) C z) := x_to_at f20_26 C s n z
theorem f20_27 : x_fetch q_k20 27 = x_st (x_bin 28 (fun a b => a - b)) := rfl
theorem t20_27 (C : xF) (s n : Nat) (z : xS) : x_to q_k20 C s (n + 1) 27 z = x_nx q_k20 C s n ((x_st (x_bin 28 (fun a b => a - b))) C z) := x_to_at f20_27 C s n z
theorem f20_28 : x_fetch q_k20 28 = x_st (x_bin 29 (fun a b => a + b)) := rfl
theorem t20_28 (C : xF) (s n : Nat) (z : xS) : x_to q_k20 C s (n + 1) 28 z = x_nx q_k20 C s n ((x_st (x_bin 29 (fun a b => a + b))) C z) := x_to_at f20_28 C s n z
theorem f20_29 : x_fetch q_k20 29 = x_sti 30 2 := rfl
theorem t20_29 (C : xF) (s n : Nat) (z : xS) : x_to q_k20 C s (n + 1) 29 z = x_nx q_k20 C s n ((x_sti 30 2) C z) := x_to_at f20_29 C s n z
theorem f20_30 : x_fetch q_k20 30 = x_iinc 33 3 (1) := rfl
theorem t20_30 (C : xF) (s n : Nat) (z : xS) : x_to q_k20 C s (n + 1) 30 z = x_nx q_k20 C s n ((x_iinc 33 3 (1)) C z) := x_to_at f20_30 C s n z
theorem f20_33 : x_fetch q_k20 33 = x_st (x_goto 4) := rfl
theorem t20_33 (C : xF) (s n : Nat) (z : xS) : x_to q_k20 C s (n + 1) 33 z = x_nx q_k20 C s n ((x_st (x_goto 4)) C z) := x_to_at f20_33 C s n z
theorem f20_36 : x_fetch q_k20 36 = x_ldi 37 3 := rfl
theorem t20_36 (C : xF) (s n : Nat) (z : xS) : x_to q_k20 C s (n + 1) 36 z = x_nx q_k20 C s n ((x_ldi 37 3) C z) := x_to_at f20_36 C s n z
theorem f20_37 : x_fetch q_k20 37 = x_ri (.int) := rfl
theorem t20_37 (C : xF) (s n : Nat) (z : xS) : x_to q_k20 C s (n + 1) 37 z = x_nx q_k20 C s n ((x_ri (.int)) C z) := x_to_at f20_37 C s n z
theorem f21_0 : x_fetch q_k21 0 = x_st (x_push 1 (.int (0))) := rfl
theorem t21_0 (C : xF) (s n : Nat) (z : xS) : x_to q_k21 C s (n + 1) 0 z = x_nx q_k21 C s n ((x_st (x_push 1 (.int (0)))) C z) := x_to_at f21_0 C s n z
theorem f21_1 : x_fetch q_k21 1 = x_sti 2 1 := rfl
theorem t21_1 (C : xF) (s n : Nat) (z : xS) : x_to q_k21 C s (n + 1) 1 z = x_nx q_k21 C s n ((x_sti 2 1) C z) := x_to_at f21_1 C s n z
theorem f21_2 : x_fetch q_k21 2 = x_st (x_push 3 (.int (0))) := rfl
theorem t21_2 (C : xF) (s n : Nat) (z : xS) : x_to q_k21 C s (n + 1) 2 z = x_nx q_k21 C s n ((x_st (x_push 3 (.int (0)))) C z) := x_to_at f21_2 C s n z
theorem f21_3 : x_fetch q_k21 3 = x_sti 4 2 := rfl
theorem t21_3 (C : xF) (s n : Nat) (z : xS) : x_to q_k21 C s (n + 1) 3 z = x_nx q_k21 C s n ((x_sti 4 2) C z) := x_to_at f21_3 C s n z
theorem f21_4 : x_fetch q_k21 4 = x_ldi 5 2 := rfl
theorem t21_4 (C : xF) (s n : Nat) (z : xS) : x_to q_k21 C s (n + 1) 4 z = x_nx q_k21 C s n ((x_ldi 5 2) C z) := x_to_at f21_4 C s n z
theorem f21_5 : x_fetch q_k21 5 = x_lda 6 0 := rfl
theorem t21_5 (C : xF) (s n : Nat) (z : xS) : x_to q_k21 C s (n + 1) 5 z = x_nx q_k21 C s n ((x_lda 6 0) C z) := x_to_at f21_5 C s n z
theorem f21_6 : x_fetch q_k21 6 = x_gf 9 4 4 := rfl
theorem t21_6 (C : xF) (s n : Nat) (z : xS) : x_to q_k21 C s (n + 1) 6 z = x_nx q_k21 C s n ((x_gf 9 4 4) C z) := x_to_at f21_6 C s n z
theorem f21_9 : x_fetch q_k21 9 = x_st (x_icge 46 12) := rfl
theorem t21_9 (C : xF) (s n : Nat) (z : xS) : x_to q_k21 C s (n + 1) 9 z = x_nx q_k21 C s n ((x_st (x_icge 46 12)) C z) := x_to_at f21_9 C s n z
theorem f21_12 : x_fetch q_k21 12 = x_lda 13 0 := rfl
theorem t21_12 (C : xF) (s n : Nat) (z : xS) : x_to q_k21 C s (n + 1) 12 z = x_nx q_k21 C s n ((x_lda 13 0) C z) := x_to_at f21_12 C s n z
theorem f21_13 : x_fetch q_k21 13 = x_gf 16 4 0 := rfl
theorem t21_13 (C : xF) (s n : Nat) (z : xS) : x_to q_k21 C s (n + 1) 13 z = x_nx q_k21 C s n ((x_gf 16 4 0) C z) := x_to_at f21_13 C s n z
theorem f21_16 : x_fetch q_k21 16 = x_ldi 17 2 := rfl
theorem t21_16 (C : xF) (s n : Nat) (z : xS) : x_to q_k21 C s (n + 1) 16 z = x_nx q_k21 C s n ((x_ldi 17 2) C z) := x_to_at f21_16 C s n z
theorem f21_17 : x_fetch q_k21 17 = x_ald 18 0 := rfl
theorem t21_17 (C : xF) (s n : Nat) (z : xS) : x_to q_k21 C s (n + 1) 17 z = x_nx q_k21 C s n ((x_ald 18 0) C z) := x_to_at f21_17 C s n z
theorem f21_18 : x_fetch q_k21 18 = x_cl_ 21 2 1 := rfl
theorem t21_18 (C : xF) (s n : Nat) (z : xS) : x_to q_k21 C s (n + 1) 18 z = x_nx q_k21 C s n ((x_cl_ 21 2 1) C z) := x_to_at f21_18 C s n z
theorem f21_21 : x_fetch q_k21 21 = x_st (x_ifeq 40 24) := rfl
theorem t21_21 (C : xF) (s n : Nat) (z : xS) : x_to q_k21 C s (n + 1) 21 z = x_nx q_k21 C s n ((x_st (x_ifeq 40 24)) C z) := x_to_at f21_21 C s n z
theorem f21_24 : x_fetch q_k21 24 = x_iinc 27 1 (1) := rfl
theorem t21_24 (C : xF) (s n : Nat) (z : xS) : x_to q_k21 C s (n + 1) 24 z = x_nx q_k21 C s n ((x_iinc 27 1 (1)) C z) := x_to_at f21_24 C s n z
theorem f21_27 : x_fetch q_k21 27 = x_lda 28 0 := rfl
theorem t21_27 (C : xF) (s n : Nat) (z : xS) : x_to q_k21 C s (n + 1) 27 z = x_nx q_k21 C s n ((x_lda 28 0) C z) := x_to_at f21_27 C s n z
theorem f21_28 : x_fetch q_k21 28 = x_ldi 29 2 := rfl
theorem t21_28 (C : xF) (s n : Nat) (z : xS) : x_to q_k21 C s (n + 1) 28 z = x_nx q_k21 C s n ((x_ldi 29 2) C z) := x_to_at f21_28 C s n z
theorem f21_29 : x_fetch q_k21 29 = x_lda 30 0 := rfl
theorem t21_29 (C : xF) (s n : Nat) (z : xS) : x_to q_k21 C s (n + 1) 29 z = x_nx q_k21 C s n ((x_lda 30 0) C z) := x_to_at f21_29 C s n z
theorem f21_30 : x_fetch q_k21 30 = x_gf 33 4 0 := rfl
theorem t21_30 (C : xF) (s n : Nat) (z : xS) : x_to q_k21 C s (n + 1) 30 z = x_nx q_k21 C s n ((x_gf 33 4 0) C z) := x_to_at f21_30 C s n z
theorem f21_33 : x_fetch q_k21 33 = x_ldi 34 2 := rfl
theorem t21_33 (C : xF) (s n : Nat) (z : xS) : x_to q_k21 C s (n + 1) 33 z = x_nx q_k21 C s n ((x_ldi 34 2) C z) := x_to_at f21_33 C s n z
theorem f21_34 : x_fetch q_k21 34 = x_ald 35 0 := rfl
theorem t21_34 (C : xF) (s n : Nat) (z : xS) : x_to q_k21 C s (n + 1) 34 z = x_nx q_k21 C s n ((x_ald 35 0) C z) := x_to_at f21_34 C s n z
theorem f21_35 : x_fetch q_k21 35 = x_ldi 36 1 := rfl
theorem t21_35 (C : xF) (s n : Nat) (z : xS) : x_to q_k21 C s (n + 1) 35 z = x_nx q_k21 C s n ((x_ldi 36 1) C z) := x_to_at f21_35 C s n z
theorem f21_36 : x_fetch q_k21 36 = x_st (x_un 37 (fun a => .int (-a))) := rfl
theorem t21_36 (C : xF) (s n : Nat) (z : xS) : x_to q_k21 C s (n + 1) 36 z = x_nx q_k21 C s n ((x_st (x_un 37 (fun a => .int (-a)))) C z) := x_to_at f21_36 C s n z
theorem f21_37 : x_fetch q_k21 37 = x_cv 40 22 4 4 := rfl
theorem t21_37 (C : xF) (s n : Nat) (z : xS) : x_to q_k21 C s (n + 1) 37 z = x_nx q_k21 C s n ((x_cv 40 22 4 4) C z) := x_to_at f21_37 C s n z
theorem f21_40 : x_fetch q_k21 40 = x_iinc 43 2 (1) := rfl
theorem t21_40 (C : xF) (s n : Nat) (z : xS) : x_to q_k21 C s (n + 1) 40 z = x_nx q_k21 C s n ((x_iinc 43 2 (1)) C z) := x_to_at f21_40 C s n z
theorem f21_43 : x_fetch q_k21 43 = x_st (x_goto 4) := rfl
theorem t21_43 (C : xF) (s n : Nat) (z : xS) : x_to q_k21 C s (n + 1) 43 z = x_nx q_k21 C s n ((x_st (x_goto 4)) C z) := x_to_at f21_43 C s n z
theorem f21_46 : x_fetch q_k21 46 = x_st (x_push 47 (.int (0))) := rfl
theorem t21_46 (C : xF) (s n : Nat) (z : xS) : x_to q_k21 C s (n + 1) 46 z = x_nx q_k21 C s n ((x_st (x_push 47 (.int (0)))) C z) := x_to_at f21_46 C s n z
theorem f21_47 : x_fetch q_k21 47 = x_sti 48 2 := rfl
theorem t21_47 (C : xF) (s n : Nat) (z : xS) : x_to q_k21 C s (n + 1) 47 z = x_nx q_k21 C s n ((x_sti 48 2) C z) := x_to_at f21_47 C s n z
theorem f21_48 : x_fetch q_k21 48 = x_ldi 49 2 := rfl
theorem t21_48 (C : xF) (s n : Nat) (z : xS) : x_to q_k21 C s (n + 1) 48 z = x_nx q_k21 C s n ((x_ldi 49 2) C z) := x_to_at f21_48 C s n z
theorem f21_49 : x_fetch q_k21 49 = x_lda 50 0 := rfl
theorem t21_49 (C : xF) (s n : Nat) (z : xS) : x_to q_k21 C s (n + 1) 49 z = x_nx q_k21 C s n ((x_lda 50 0) C z) := x_to_at f21_49 C s n z
theorem f21_50 : x_fetch q_k21 50 = x_gf 53 4 4 := rfl
theorem t21_50 (C : xF) (s n : Nat) (z : xS) : x_to q_k21 C s (n + 1) 50 z = x_nx q_k21 C s n ((x_gf 53 4 4) C z) := x_to_at f21_50 C s n z
theorem f21_53 : x_fetch q_k21 53 = x_st (x_icge 89 56) := rfl
theorem t21_53 (C : xF) (s n : Nat) (z : xS) : x_to q_k21 C s (n + 1) 53 z = x_nx q_k21 C s n ((x_st (x_icge 89 56)) C z) := x_to_at f21_53 C s n z
theorem f21_56 : x_fetch q_k21 56 = x_lda 57 0 := rfl
theorem t21_56 (C : xF) (s n : Nat) (z : xS) : x_to q_k21 C s (n + 1) 56 z = x_nx q_k21 C s n ((x_lda 57 0) C z) := x_to_at f21_56 C s n z
theorem f21_57 : x_fetch q_k21 57 = x_gf 60 4 0 := rfl
theorem t21_57 (C : xF) (s n : Nat) (z : xS) : x_to q_k21 C s (n + 1) 57 z = x_nx q_k21 C s n ((x_gf 60 4 0) C z) := x_to_at f21_57 C s n z
theorem f21_60 : x_fetch q_k21 60 = x_ldi 61 2 := rfl
theorem t21_60 (C : xF) (s n : Nat) (z : xS) : x_to q_k21 C s (n + 1) 60 z = x_nx q_k21 C s n ((x_ldi 61 2) C z) := x_to_at f21_60 C s n z
theorem f21_61 : x_fetch q_k21 61 = x_ald 62 0 := rfl
theorem t21_61 (C : xF) (s n : Nat) (z : xS) : x_to q_k21 C s (n + 1) 61 z = x_nx q_k21 C s n ((x_ald 62 0) C z) := x_to_at f21_61 C s n z
theorem f21_62 : x_fetch q_k21 62 = x_st (x_ifge 83 65) := rfl
theorem t21_62 (C : xF) (s n : Nat) (z : xS) : x_to q_k21 C s (n + 1) 62 z = x_nx q_k21 C s n ((x_st (x_ifge 83 65)) C z) := x_to_at f21_62 C s n z
theorem f21_65 : x_fetch q_k21 65 = x_lda 66 0 := rfl
theorem t21_65 (C : xF) (s n : Nat) (z : xS) : x_to q_k21 C s (n + 1) 65 z = x_nx q_k21 C s n ((x_lda 66 0) C z) := x_to_at f21_65 C s n z
theorem f21_66 : x_fetch q_k21 66 = x_gf 69 4 0 := rfl
theorem t21_66 (C : xF) (s n : Nat) (z : xS) : x_to q_k21 C s (n + 1) 66 z = x_nx q_k21 C s n ((x_gf 69 4 0) C z) := x_to_at f21_66 C s n z
theorem f21_69 : x_fetch q_k21 69 = x_ldi 70 2 := rfl
theorem t21_69 (C : xF) (s n : Nat) (z : xS) : x_to q_k21 C s (n + 1) 69 z = x_nx q_k21 C s n ((x_ldi 70 2) C z) := x_to_at f21_69 C s n z
theorem f21_70 : x_fetch q_k21 70 = x_lda 71 0 := rfl
theorem t21_70 (C : xF) (s n : Nat) (z : xS) : x_to q_k21 C s (n + 1) 70 z = x_nx q_k21 C s n ((x_lda 71 0) C z) := x_to_at f21_70 C s n z
theorem f21_71 : x_fetch q_k21 71 = x_gf 74 4 0 := rfl
theorem t21_71 (C : xF) (s n : Nat) (z : xS) : x_to q_k21 C s (n + 1) 71 z = x_nx q_k21 C s n ((x_gf 74 4 0) C z) := x_to_at f21_71 C s n z
theorem f21_74 : x_fetch q_k21 74 = x_ldi 75 2 := rfl
theorem t21_74 (C : xF) (s n : Nat) (z : xS) : x_to q_k21 C s (n + 1) 74 z = x_nx q_k21 C s n ((x_ldi 75 2) C z) := x_to_at f21_74 C s n z
theorem f21_75 : x_fetch q_k21 75 = x_ald 76 0 := rfl
theorem t21_75 (C : xF) (s n : Nat) (z : xS) : x_to q_k21 C s (n + 1) 75 z = x_nx q_k21 C s n ((x_ald 76 0) C z) := x_to_at f21_75 C s n z
theorem f21_76 : x_fetch q_k21 76 = x_st (x_un 77 (fun a => .int (-a))) := rfl
theorem t21_76 (C : xF) (s n : Nat) (z : xS) : x_to q_k21 C s (n + 1) 76 z = x_nx q_k21 C s n ((x_st (x_un 77 (fun a => .int (-a)))) C z) := x_to_at f21_76 C s n z
theorem f21_77 : x_fetch q_k21 77 = x_st (x_push 78 (.int (1))) := rfl
theorem t21_77 (C : xF) (s n : Nat) (z : xS) : x_to q_k21 C s (n + 1) 77 z = x_nx q_k21 C s n ((x_st (x_push 78 (.int (1)))) C z) := x_to_at f21_77 C s n z
theorem f21_78 : x_fetch q_k21 78 = x_st (x_bin 79 (fun a b => a - b)) := rfl
theorem t21_78 (C : xF) (s n : Nat) (z : xS) : x_to q_k21 C s (n + 1) 78 z = x_nx q_k21 C s n ((x_st (x_bin 79 (fun a b => a - b))) C z) := x_to_at f21_78 C s n z
theorem f21_79 : x_fetch q_k21 79 = x_cl_ 82 1 1 := rfl
theorem t21_79 (C : xF) (s n : Nat) (z : xS) : x_to q_k21 C s (n + 1) 79 z = x_nx q_k21 C s n ((x_cl_ 82 1 1) C z) := x_to_at f21_79 C s n z
theorem f21_82 : x_fetch q_k21 82 = x_ast 83 0 (fun x => x) := rfl
theorem t21_82 (C : xF) (s n : Nat) (z : xS) : x_to q_k21 C s (n + 1) 82 z = x_nx q_k21 C s n ((x_ast 83 0 (fun x => x)) C z) := x_to_at f21_82 C s n z
theorem f21_83 : x_fetch q_k21 83 = x_iinc 86 2 (1) := rfl
theorem t21_83 (C : xF) (s n : Nat) (z : xS) : x_to q_k21 C s (n + 1) 83 z = x_nx q_k21 C s n ((x_iinc 86 2 (1)) C z) := x_to_at f21_83 C s n z
theorem f21_86 : x_fetch q_k21 86 = x_st (x_goto 48) := rfl
theorem t21_86 (C : xF) (s n : Nat) (z : xS) : x_to q_k21 C s (n + 1) 86 z = x_nx q_k21 C s n ((x_st (x_goto 48)) C z) := x_to_at f21_86 C s n z
theorem f21_89 : x_fetch q_k21 89 = x_ldi 90 1 := rfl
theorem t21_89 (C : xF) (s n : Nat) (z : xS) : x_to q_k21 C s (n + 1) 89 z = x_nx q_k21 C s n ((x_ldi 90 1) C z) := x_to_at f21_89 C s n z
theorem f21_90 : x_fetch q_k21 90 = x_ri (.int) := rfl
theorem t21_90 (C : xF) (s n : Nat) (z : xS) : x_to q_k21 C s (n + 1) 90 z = x_nx q_k21 C s n ((x_ri (.int)) C z) := x_to_at f21_90 C s n z
theorem f22_0 : x_fetch q_k22 0 = x_ldi 1 1 := rfl
theorem t22_0 (C : xF) (s n : Nat) (z : xS) : x_to q_k22 C s (n + 1) 0 z = x_nx q_k22 C s n ((x_ldi 1 1) C z) := x_to_at f22_0 C s n z
theorem f22_1 : x_fetch q_k22 1 = x_sti 3 4 := rfl
theorem t22_1 (C : xF) (s n : Nat) (z : xS) : x_to q_k22 C s (n + 1) 1 z = x_nx q_k22 C s n ((x_sti 3 4) C z) := x_to_at f22_1 C s n z
theorem f22_3 : x_fetch q_k22 3 = x_ldi 5 4 := rfl
theorem t22_3 (C : xF) (s n : Nat) (z : xS) : x_to q_k22 C s (n + 1) 3 z = x_nx q_k22 C s n ((x_ldi 5 4) C z) := x_to_at f22_3 C s n z
theorem f22_5 : x_fetch q_k22 5 = x_lda 6 0 := rfl
theorem t22_5 (C : xF) (s n : Nat) (z : xS) : x_to q_k22 C s (n + 1) 5 z = x_nx q_k22 C s n ((x_lda 6 0) C z) := x_to_at f22_5 C s n z
theorem f22_6 : x_fetch q_k22 6 = x_gf 9 4 4 := rfl
theorem t22_6 (C : xF) (s n : Nat) (z : xS) : x_to q_k22 C s (n + 1) 6 z = x_nx q_k22 C s n ((x_gf 9 4 4) C z) := x_to_at f22_6 C s n z
theorem f22_9 : x_fetch q_k22 9 = x_st (x_icge 37 12) := rfl
theorem t22_9 (C : xF) (s n : Nat) (z : xS) : x_to q_k22 C s (n + 1) 9 z = x_nx q_k22 C s n ((x_st (x_icge 37 12)) C z) := x_to_at f22_9 C s n z
theorem f22_12 : x_fetch q_k22 12 = x_lda 13 0 := rfl
theorem t22_12 (C : xF) (s n : Nat) (z : xS) : x_to q_k22 C s (n + 1) 12 z = x_nx q_k22 C s n ((x_lda 13 0) C z) := x_to_at f22_12 C s n z
theorem f22_13 : x_fetch q_k22 13 = x_gf 16 4 0 := rfl
theorem t22_13 (C : xF) (s n : Nat) (z : xS) : x_to q_k22 C s (n + 1) 13 z = x_nx q_k22 C s n ((x_gf 16 4 0) C z) := x_to_at f22_13 C s n z
theorem f22_16 : x_fetch q_k22 16 = x_ldi 18 4 := rfl
theorem t22_16 (C : xF) (s n : Nat) (z : xS) : x_to q_k22 C s (n + 1) 16 z = x_nx q_k22 C s n ((x_ldi 18 4) C z) := x_to_at f22_16 C s n z
theorem f22_18 : x_fetch q_k22 18 = x_ald 19 0 := rfl
theorem t22_18 (C : xF) (s n : Nat) (z : xS) : x_to q_k22 C s (n + 1) 18 z = x_nx q_k22 C s n ((x_ald 19 0) C z) := x_to_at f22_18 C s n z
theorem f22_19 : x_fetch q_k22 19 = x_ldi 20 2 := rfl
theorem t22_19 (C : xF) (s n : Nat) (z : xS) : x_to q_k22 C s (n + 1) 19 z = x_nx q_k22 C s n ((x_ldi 20 2) C z) := x_to_at f22_19 C s n z
theorem f22_20 : x_fetch q_k22 20 = x_st (x_icne 31 23) := rfl
theorem t22_20 (C : xF) (s n : Nat) (z : xS) : x_to q_k22 C s (n + 1) 20 z = x_nx q_k22 C s n ((x_st (x_icne 31 23)) C z) := x_to_at f22_20 C s n z
theorem f22_23 : x_fetch q_k22 23 = x_lda 24 0 := rfl
theorem t22_23 (C : xF) (s n : Nat) (z : xS) : x_to q_k22 C s (n + 1) 23 z = x_nx q_k22 C s n ((x_lda 24 0) C z) := x_to_at f22_23 C s n z
theorem f22_24 : x_fetch q_k22 24 = x_gf 27 4 0 := rfl
theorem t22_24 (C : xF) (s n : Nat) (z : xS) : x_to q_k22 C s (n + 1) 24 z = x_nx q_k22 C s n ((x_gf 27 4 0) C z) := x_to_at f22_24 C s n z
theorem f22_27 : x_fetch q_k22 27 = x_ldi 29 4 := rfl
theorem t22_27 (C : xF) (s n : Nat) (z : xS) : x_to q_k22 C s (n + 1) 27 z = x_nx q_k22 C s n ((x_ldi 29 4) C z) := x_to_at f22_27 C s n z
theorem f22_29 : x_fetch q_k22 29 = x_ldi 30 3 := rfl
theorem t22_29 (C : xF) (s n : Nat) (z : xS) : x_to q_k22 C s (n + 1) 29 z = x_nx q_k22 C s n ((x_ldi 30 3) C z) := x_to_at f22_29 C s n z
theorem f22_30 : x_fetch q_k22 30 = x_ast 31 0 (fun x => x) := rfl
theorem t22_30 (C : xF) (s n : Nat) (z : xS) : x_to q_k22 C s (n + 1) 30 z = x_nx q_k22 C s n ((x_ast 31 0 (fun x => x)) C z) := x_to_at f22_30 C s n z
theorem f22_31 : x_fetch q_k22 31 = x_iinc 34 4 (1) := rfl
theorem t22_31 (C : xF) (s n : Nat) (z : xS) : x_to q_k22 C s (n + 1) 31 z = x_nx q_k22 C s n ((x_iinc 34 4 (1)) C z) := x_to_at f22_31 C s n z
theorem f22_34 : x_fetch q_k22 34 = x_st (x_goto 3) := rfl
theorem t22_34 (C : xF) (s n : Nat) (z : xS) : x_to q_k22 C s (n + 1) 34 z = x_nx q_k22 C s n ((x_st (x_goto 3)) C z) := x_to_at f22_34 C s n z
theorem f22_37 : x_fetch q_k22 37 = x_rv := rfl
theorem t22_37 (C : xF) (s n : Nat) (z : xS) : x_to q_k22 C s (n + 1) 37 z = x_nx q_k22 C s n ((x_rv) C z) := x_to_at f22_37 C s n z
theorem f23_0 : x_fetch q_k23 0 = x_lda 1 0 := rfl
theorem t23_0 (C : xF) (s n : Nat) (z : xS) : x_to q_k23 C s (n + 1) 0 z = x_nx q_k23 C s n ((x_lda 1 0) C z) := x_to_at f23_0 C s n z
theorem f23_1 : x_fetch q_k23 1 = x_gf 4 4 3 := rfl
theorem t23_1 (C : xF) (s n : Nat) (z : xS) : x_to q_k23 C s (n + 1) 1 z = x_nx q_k23 C s n ((x_gf 4 4 3) C z) := x_to_at f23_1 C s n z
theorem f23_4 : x_fetch q_k23 4 = x_lda 5 1 := rfl
theorem t23_4 (C : xF) (s n : Nat) (z : xS) : x_to q_k23 C s (n + 1) 4 z = x_nx q_k23 C s n ((x_lda 5 1) C z) := x_to_at f23_4 C s n z
theorem f23_5 : x_fetch q_k23 5 = x_gf 8 4 3 := rfl
theorem t23_5 (C : xF) (s n : Nat) (z : xS) : x_to q_k23 C s (n + 1) 5 z = x_nx q_k23 C s n ((x_gf 8 4 3) C z) := x_to_at f23_5 C s n z
theorem f23_8 : x_fetch q_k23 8 = x_st (x_icne 22 11) := rfl
theorem t23_8 (C : xF) (s n : Nat) (z : xS) : x_to q_k23 C s (n + 1) 8 z = x_nx q_k23 C s n ((x_st (x_icne 22 11)) C z) := x_to_at f23_8 C s n z
theorem f23_11 : x_fetch q_k23 11 = x_lda 12 0 := rfl
theorem t23_11 (C : xF) (s n : Nat) (z : xS) : x_to q_k23 C s (n + 1) 11 z = x_nx q_k23 C s n ((x_lda 12 0) C z) := x_to_at f23_11 C s n z
theorem f23_12 : x_fetch q_k23 12 = x_gf 15 4 4 := rfl
theorem t23_12 (C : xF) (s n : Nat) (z : xS) : x_to q_k23 C s (n + 1) 12 z = x_nx q_k23 C s n ((x_gf 15 4 4) C z) := x_to_at f23_12 C s n z
theorem f23_15 : x_fetch q_k23 15 = x_lda 16 1 := rfl
theorem t23_15 (C : xF) (s n : Nat) (z : xS) : x_to q_k23 C s (n + 1) 15 z = x_nx q_k23 C s n ((x_lda 16 1) C z) := x_to_at f23_15 C s n z
theorem f23_16 : x_fetch q_k23 16 = x_gf 19 4 4 := rfl
theorem t23_16 (C : xF) (s n : Nat) (z : xS) : x_to q_k23 C s (n + 1) 16 z = x_nx q_k23 C s n ((x_gf 19 4 4) C z) := x_to_at f23_16 C s n z
theorem f23_19 : x_fetch q_k23 19 = x_st (x_iceq 24 22) := rfl
theorem t23_19 (C : xF) (s n : Nat) (z : xS) : x_to q_k23 C s (n + 1) 19 z = x_nx q_k23 C s n ((x_st (x_iceq 24 22)) C z) := x_to_at f23_19 C s n z
theorem f23_22 : x_fetch q_k23 22 = x_st (x_push 23 (.int (0))) := rfl
theorem t23_22 (C : xF) (s n : Nat) (z : xS) : x_to q_k23 C s (n + 1) 22 z = x_nx q_k23 C s n ((x_st (x_push 23 (.int (0)))) C z) := x_to_at f23_22 C s n z
theorem f23_23 : x_fetch q_k23 23 = x_ri (.boolean) := rfl
theorem t23_23 (C : xF) (s n : Nat) (z : xS) : x_to q_k23 C s (n + 1) 23 z = x_nx q_k23 C s n ((x_ri (.boolean)) C z) := x_to_at f23_23 C s n z
theorem f23_24 : x_fetch q_k23 24 = x_st (x_push 25 (.int (0))) := rfl
theorem t23_24 (C : xF) (s n : Nat) (z : xS) : x_to q_k23 C s (n + 1) 24 z = x_nx q_k23 C s n ((x_st (x_push 25 (.int (0)))) C z) := x_to_at f23_24 C s n z
theorem f23_25 : x_fetch q_k23 25 = x_sti 26 2 := rfl
theorem t23_25 (C : xF) (s n : Nat) (z : xS) : x_to q_k23 C s (n + 1) 25 z = x_nx q_k23 C s n ((x_sti 26 2) C z) := x_to_at f23_25 C s n z
theorem f23_26 : x_fetch q_k23 26 = x_ldi 27 2 := rfl
theorem t23_26 (C : xF) (s n : Nat) (z : xS) : x_to q_k23 C s (n + 1) 26 z = x_nx q_k23 C s n ((x_ldi 27 2) C z) := x_to_at f23_26 C s n z
theorem f23_27 : x_fetch q_k23 27 = x_lda 28 0 := rfl
theorem t23_27 (C : xF) (s n : Nat) (z : xS) : x_to q_k23 C s (n + 1) 27 z = x_nx q_k23 C s n ((x_lda 28 0) C z) := x_to_at f23_27 C s n z
theorem f23_28 : x_fetch q_k23 28 = x_gf 31 4 3 := rfl
theorem t23_28 (C : xF) (s n : Nat) (z : xS) : x_to q_k23 C s (n + 1) 28 z = x_nx q_k23 C s n ((x_gf 31 4 3) C z) := x_to_at f23_28 C s n z
theorem f23_31 : x_fetch q_k23 31 = x_st (x_icge 72 34) := rfl
theorem t23_31 (C : xF) (s n : Nat) (z : xS) : x_to q_k23 C s (n + 1) 31 z = x_nx q_k23 C s n ((x_st (x_icge 72 34)) C z) := x_to_at f23_31 C s n z
theorem f23_34 : x_fetch q_k23 34 = x_lda 35 0 := rfl
theorem t23_34 (C : xF) (s n : Nat) (z : xS) : x_to q_k23 C s (n + 1) 34 z = x_nx q_k23 C s n ((x_lda 35 0) C z) := x_to_at f23_34 C s n z
theorem f23_35 : x_fetch q_k23 35 = x_gf 38 4 1 := rfl
theorem t23_35 (C : xF) (s n : Nat) (z : xS) : x_to q_k23 C s (n + 1) 35 z = x_nx q_k23 C s n ((x_gf 38 4 1) C z) := x_to_at f23_35 C s n z
theorem f23_38 : x_fetch q_k23 38 = x_ldi 39 2 := rfl
theorem t23_38 (C : xF) (s n : Nat) (z : xS) : x_to q_k23 C s (n + 1) 38 z = x_nx q_k23 C s n ((x_ldi 39 2) C z) := x_to_at f23_38 C s n z
theorem f23_39 : x_fetch q_k23 39 = x_ald 40 0 := rfl
theorem t23_39 (C : xF) (s n : Nat) (z : xS) : x_to q_k23 C s (n + 1) 39 z = x_nx q_k23 C s n ((x_ald 40 0) C z) := x_to_at f23_39 C s n z
theorem f23_40 : x_fetch q_k23 40 = x_lda 41 1 := rfl
theorem t23_40 (C : xF) (s n : Nat) (z : xS) : x_to q_k23 C s (n + 1) 40 z = x_nx q_k23 C s n ((x_lda 41 1) C z) := x_to_at f23_40 C s n z
theorem f23_41 : x_fetch q_k23 41 = x_gf 44 4 1 := rfl
theorem t23_41 (C : xF) (s n : Nat) (z : xS) : x_to q_k23 C s (n + 1) 41 z = x_nx q_k23 C s n ((x_gf 44 4 1) C z) := x_to_at f23_41 C s n z
theorem f23_44 : x_fetch q_k23 44 = x_ldi 45 2 := rfl
theorem t23_44 (C : xF) (s n : Nat) (z : xS) : x_to q_k23 C s (n + 1) 44 z = x_nx q_k23 C s n ((x_ldi 45 2) C z) := x_to_at f23_44 C s n z
theorem f23_45 : x_fetch q_k23 45 = x_ald 46 0 := rfl
theorem t23_45 (C : xF) (s n : Nat) (z : xS) : x_to q_k23 C s (n + 1) 45 z = x_nx q_k23 C s n ((x_ald 46 0) C z) := x_to_at f23_45 C s n z
theorem f23_46 : x_fetch q_k23 46 = x_st (x_icne 64 49) := rfl
theorem t23_46 (C : xF) (s n : Nat) (z : xS) : x_to q_k23 C s (n + 1) 46 z = x_nx q_k23 C s n ((x_st (x_icne 64 49)) C z) := x_to_at f23_46 C s n z
theorem f23_49 : x_fetch q_k23 49 = x_lda 50 0 := rfl
theorem t23_49 (C : xF) (s n : Nat) (z : xS) : x_to q_k23 C s (n + 1) 49 z = x_nx q_k23 C s n ((x_lda 50 0) C z) := x_to_at f23_49 C s n z
theorem f23_50 : x_fetch q_k23 50 = x_gf 53 4 2 := rfl
theorem t23_50 (C : xF) (s n : Nat) (z : xS) : x_to q_k23 C s (n + 1) 50 z = x_nx q_k23 C s n ((x_gf 53 4 2) C z) := x_to_at f23_50 C s n z
theorem f23_53 : x_fetch q_k23 53 = x_ldi 54 2 := rfl
theorem t23_53 (C : xF) (s n : Nat) (z : xS) : x_to q_k23 C s (n + 1) 53 z = x_nx q_k23 C s n ((x_ldi 54 2) C z) := x_to_at f23_53 C s n z
theorem f23_54 : x_fetch q_k23 54 = x_ald 55 1 := rfl
theorem t23_54 (C : xF) (s n : Nat) (z : xS) : x_to q_k23 C s (n + 1) 54 z = x_nx q_k23 C s n ((x_ald 55 1) C z) := x_to_at f23_54 C s n z
theorem f23_55 : x_fetch q_k23 55 = x_lda 56 1 := rfl
theorem t23_55 (C : xF) (s n : Nat) (z : xS) : x_to q_k23 C s (n + 1) 55 z = x_nx q_k23 C s n ((x_lda 56 1) C z) := x_to_at f23_55 C s n z
theorem f23_56 : x_fetch q_k23 56 = x_gf 59 4 2 := rfl
theorem t23_56 (C : xF) (s n : Nat) (z : xS) : x_to q_k23 C s (n + 1) 56 z = x_nx q_k23 C s n ((x_gf 59 4 2) C z) := x_to_at f23_56 C s n z
theorem f23_59 : x_fetch q_k23 59 = x_ldi 60 2 := rfl
theorem t23_59 (C : xF) (s n : Nat) (z : xS) : x_to q_k23 C s (n + 1) 59 z = x_nx q_k23 C s n ((x_ldi 60 2) C z) := x_to_at f23_59 C s n z
theorem f23_60 : x_fetch q_k23 60 = x_ald 61 1 := rfl
theorem t23_60 (C : xF) (s n : Nat) (z : xS) : x_to q_k23 C s (n + 1) 60 z = x_nx q_k23 C s n ((x_ald 61 1) C z) := x_to_at f23_60 C s n z
theorem f23_61 : x_fetch q_k23 61 = x_st (x_iceq 66 64) := rfl
theorem t23_61 (C : xF) (s n : Nat) (z : xS) : x_to q_k23 C s (n + 1) 61 z = x_nx q_k23 C s n ((x_st (x_iceq 66 64)) C z) := x_to_at f23_61 C s n z
theorem f23_64 : x_fetch q_k23 64 = x_st (x_push 65 (.int (0))) := rfl
theorem t23_64 (C : xF) (s n : Nat) (z : xS) : x_to q_k23 C s (n + 1) 64 z = x_nx q_k23 C s n ((x_st (x_push 65 (.int (0)))) C z) := x_to_at f23_64 C s n z
theorem f23_65 : x_fetch q_k23 65 = x_ri (.boolean) := rfl
theorem t23_65 (C : xF) (s n : Nat) (z : xS) : x_to q_k23 C s (n + 1) 65 z = x_nx q_k23 C s n ((x_ri (.boolean)) C z) := x_to_at f23_65 C s n z
theorem f23_66 : x_fetch q_k23 66 = x_iinc 69 2 (1) := rfl
theorem t23_66 (C : xF) (s n : Nat) (z : xS) : x_to q_k23 C s (n + 1) 66 z = x_nx q_k23 C s n ((x_iinc 69 2 (1)) C z) := x_to_at f23_66 C s n z
theorem f23_69 : x_fetch q_k23 69 = x_st (x_goto 26) := rfl
theorem t23_69 (C : xF) (s n : Nat) (z : xS) : x_to q_k23 C s (n + 1) 69 z = x_nx q_k23 C s n ((x_st (x_goto 26)) C z) := x_to_at f23_69 C s n z
theorem f23_72 : x_fetch q_k23 72 = x_st (x_push 73 (.int (0))) := rfl
theorem t23_72 (C : xF) (s n : Nat) (z : xS) : x_to q_k23 C s (n + 1) 72 z = x_nx q_k23 C s n ((x_st (x_push 73 (.int (0)))) C z) := x_to_at f23_72 C s n z
theorem f23_73 : x_fetch q_k23 73 = x_sti 74 2 := rfl
theorem t23_73 (C : xF) (s n : Nat) (z : xS) : x_to q_k23 C s (n + 1) 73 z = x_nx q_k23 C s n ((x_sti 74 2) C z) := x_to_at f23_73 C s n z
theorem f23_74 : x_fetch q_k23 74 = x_ldi 75 2 := rfl
theorem t23_74 (C : xF) (s n : Nat) (z : xS) : x_to q_k23 C s (n + 1) 74 z = x_nx q_k23 C s n ((x_ldi 75 2) C z) := x_to_at f23_74 C s n z
theorem f23_75 : x_fetch q_k23 75 = x_lda 76 0 := rfl
theorem t23_75 (C : xF) (s n : Nat) (z : xS) : x_to q_k23 C s (n + 1) 75 z = x_nx q_k23 C s n ((x_lda 76 0) C z) := x_to_at f23_75 C s n z
theorem f23_76 : x_fetch q_k23 76 = x_gf 79 4 4 := rfl
theorem t23_76 (C : xF) (s n : Nat) (z : xS) : x_to q_k23 C s (n + 1) 76 z = x_nx q_k23 C s n ((x_gf 79 4 4) C z) := x_to_at f23_76 C s n z
theorem f23_79 : x_fetch q_k23 79 = x_st (x_icge 105 82) := rfl
theorem t23_79 (C : xF) (s n : Nat) (z : xS) : x_to q_k23 C s (n + 1) 79 z = x_nx q_k23 C s n ((x_st (x_icge 105 82)) C z) := x_to_at f23_79 C s n z
theorem f23_82 : x_fetch q_k23 82 = x_lda 83 0 := rfl
theorem t23_82 (C : xF) (s n : Nat) (z : xS) : x_to q_k23 C s (n + 1) 82 z = x_nx q_k23 C s n ((x_lda 83 0) C z) := x_to_at f23_82 C s n z
theorem f23_83 : x_fetch q_k23 83 = x_gf 86 4 0 := rfl
theorem t23_83 (C : xF) (s n : Nat) (z : xS) : x_to q_k23 C s (n + 1) 83 z = x_nx q_k23 C s n ((x_gf 86 4 0) C z) := x_to_at f23_83 C s n z
theorem f23_86 : x_fetch q_k23 86 = x_ldi 87 2 := rfl
theorem t23_86 (C : xF) (s n : Nat) (z : xS) : x_to q_k23 C s (n + 1) 86 z = x_nx q_k23 C s n ((x_ldi 87 2) C z) := x_to_at f23_86 C s n z
theorem f23_87 : x_fetch q_k23 87 = x_ald 88 0 := rfl
theorem t23_87 (C : xF) (s n : Nat) (z : xS) : x_to q_k23 C s (n + 1) 87 z = x_nx q_k23 C s n ((x_ald 88 0) C z) := x_to_at f23_87 C s n z
theorem f23_88 : x_fetch q_k23 88 = x_lda 89 1 := rfl
theorem t23_88 (C : xF) (s n : Nat) (z : xS) : x_to q_k23 C s (n + 1) 88 z = x_nx q_k23 C s n ((x_lda 89 1) C z) := x_to_at f23_88 C s n z
theorem f23_89 : x_fetch q_k23 89 = x_gf 92 4 0 := rfl
theorem t23_89 (C : xF) (s n : Nat) (z : xS) : x_to q_k23 C s (n + 1) 89 z = x_nx q_k23 C s n ((x_gf 92 4 0) C z) := x_to_at f23_89 C s n z
theorem f23_92 : x_fetch q_k23 92 = x_ldi 93 2 := rfl
theorem t23_92 (C : xF) (s n : Nat) (z : xS) : x_to q_k23 C s (n + 1) 92 z = x_nx q_k23 C s n ((x_ldi 93 2) C z) := x_to_at f23_92 C s n z
theorem f23_93 : x_fetch q_k23 93 = x_ald 94 0 := rfl
theorem t23_93 (C : xF) (s n : Nat) (z : xS) : x_to q_k23 C s (n + 1) 93 z = x_nx q_k23 C s n ((x_ald 94 0) C z) := x_to_at f23_93 C s n z
theorem f23_94 : x_fetch q_k23 94 = x_st (x_iceq 99 97) := rfl
theorem t23_94 (C : xF) (s n : Nat) (z : xS) : x_to q_k23 C s (n + 1) 94 z = x_nx q_k23 C s n ((x_st (x_iceq 99 97)) C z) := x_to_at f23_94 C s n z
theorem f23_97 : x_fetch q_k23 97 = x_st (x_push 98 (.int (0))) := rfl
theorem t23_97 (C : xF) (s n : Nat) (z : xS) : x_to q_k23 C s (n + 1) 97 z = x_nx q_k23 C s n ((x_st (x_push 98 (.int (0)))) C z) := x_to_at f23_97 C s n z
theorem f23_98 : x_fetch q_k23 98 = x_ri (.boolean) := rfl
theorem t23_98 (C : xF) (s n : Nat) (z : xS) : x_to q_k23 C s (n + 1) 98 z = x_nx q_k23 C s n ((x_ri (.boolean)) C z) := x_to_at f23_98 C s n z
theorem f23_99 : x_fetch q_k23 99 = x_iinc 102 2 (1) := rfl
theorem t23_99 (C : xF) (s n : Nat) (z : xS) : x_to q_k23 C s (n + 1) 99 z = x_nx q_k23 C s n ((x_iinc 102 2 (1)) C z) := x_to_at f23_99 C s n z
theorem f23_102 : x_fetch q_k23 102 = x_st (x_goto 74) := rfl
theorem t23_102 (C : xF) (s n : Nat) (z : xS) : x_to q_k23 C s (n + 1) 102 z = x_nx q_k23 C s n ((x_st (x_goto 74)) C z) := x_to_at f23_102 C s n z
theorem f23_105 : x_fetch q_k23 105 = x_st (x_push 106 (.int (1))) := rfl
theorem t23_105 (C : xF) (s n : Nat) (z : xS) : x_to q_k23 C s (n + 1) 105 z = x_nx q_k23 C s n ((x_st (x_push 106 (.int (1)))) C z) := x_to_at f23_105 C s n z
theorem f23_106 : x_fetch q_k23 106 = x_ri (.boolean) := rfl
theorem t23_106 (C : xF) (s n : Nat) (z : xS) : x_to q_k23 C s (n + 1) 106 z = x_nx q_k23 C s n ((x_ri (.boolean)) C z) := x_to_at f23_106 C s n z
theorem f24_0 : x_fetch q_k24 0 = x_st (x_push 1 (.int (0))) := rfl
theorem t24_0 (C : xF) (s n : Nat) (z : xS) : x_to q_k24 C s (n + 1) 0 z = x_nx q_k24 C s n ((x_st (x_push 1 (.int (0)))) C z) := x_to_at f24_0 C s n z
theorem f24_1 : x_fetch q_k24 1 = x_sti 2 1 := rfl
theorem t24_1 (C : xF) (s n : Nat) (z : xS) : x_to q_k24 C s (n + 1) 1 z = x_nx q_k24 C s n ((x_sti 2 1) C z) := x_to_at f24_1 C s n z
theorem f24_2 : x_fetch q_k24 2 = x_ldi 3 1 := rfl
theorem t24_2 (C : xF) (s n : Nat) (z : xS) : x_to q_k24 C s (n + 1) 2 z = x_nx q_k24 C s n ((x_ldi 3 1) C z) := x_to_at f24_2 C s n z
theorem f24_3 : x_fetch q_k24 3 = x_lda 4 0 := rfl
theorem t24_3 (C : xF) (s n : Nat) (z : xS) : x_to q_k24 C s (n + 1) 3 z = x_nx q_k24 C s n ((x_lda 4 0) C z) := x_to_at f24_3 C s n z
theorem f24_4 : x_fetch q_k24 4 = x_gf 7 4 3 := rfl
theorem t24_4 (C : xF) (s n : Nat) (z : xS) : x_to q_k24 C s (n + 1) 4 z = x_nx q_k24 C s n ((x_gf 7 4 3) C z) := x_to_at f24_4 C s n z
theorem f24_7 : x_fetch q_k24 7 = x_st (x_icge 82 10) := rfl
theorem t24_7 (C : xF) (s n : Nat) (z : xS) : x_to q_k24 C s (n + 1) 7 z = x_nx q_k24 C s n ((x_st (x_icge 82 10)) C z) := x_to_at f24_7 C s n z
theorem f24_10 : x_fetch q_k24 10 = x_lda 11 0 := rfl
theorem t24_10 (C : xF) (s n : Nat) (z : xS) : x_to q_k24 C s (n + 1) 10 z = x_nx q_k24 C s n ((x_lda 11 0) C z) := x_to_at f24_10 C s n z
theorem f24_11 : x_fetch q_k24 11 = x_gf 14 4 2 := rfl
theorem t24_11 (C : xF) (s n : Nat) (z : xS) : x_to q_k24 C s (n + 1) 11 z = x_nx q_k24 C s n ((x_gf 14 4 2) C z) := x_to_at f24_11 C s n z
theorem f24_14 : x_fetch q_k24 14 = x_ldi 15 1 := rfl
theorem t24_14 (C : xF) (s n : Nat) (z : xS) : x_to q_k24 C s (n + 1) 14 z = x_nx q_k24 C s n ((x_ldi 15 1) C z) := x_to_at f24_14 C s n z
theorem f24_15 : x_fetch q_k24 15 = x_ald 16 1 := rfl
theorem t24_15 (C : xF) (s n : Nat) (z : xS) : x_to q_k24 C s (n + 1) 15 z = x_nx q_k24 C s n ((x_ald 16 1) C z) := x_to_at f24_15 C s n z
theorem f24_16 : x_fetch q_k24 16 = x_st (x_ifne 37 19) := rfl
theorem t24_16 (C : xF) (s n : Nat) (z : xS) : x_to q_k24 C s (n + 1) 16 z = x_nx q_k24 C s n ((x_st (x_ifne 37 19)) C z) := x_to_at f24_16 C s n z
theorem f24_19 : x_fetch q_k24 19 = x_lda 20 0 := rfl
theorem t24_19 (C : xF) (s n : Nat) (z : xS) : x_to q_k24 C s (n + 1) 19 z = x_nx q_k24 C s n ((x_lda 20 0) C z) := x_to_at f24_19 C s n z
theorem f24_20 : x_fetch q_k24 20 = x_ldi 21 1 := rfl
theorem t24_20 (C : xF) (s n : Nat) (z : xS) : x_to q_k24 C s (n + 1) 20 z = x_nx q_k24 C s n ((x_ldi 21 1) C z) := x_to_at f24_20 C s n z
theorem f24_21 : x_fetch q_k24 21 = x_cv 24 13 2 4 := rfl
theorem t24_21 (C : xF) (s n : Nat) (z : xS) : x_to q_k24 C s (n + 1) 21 z = x_nx q_k24 C s n ((x_cv 24 13 2 4) C z) := x_to_at f24_21 C s n z
theorem f24_24 : x_fetch q_k24 24 = x_st (x_ifeq 37 27) := rfl
theorem t24_24 (C : xF) (s n : Nat) (z : xS) : x_to q_k24 C s (n + 1) 24 z = x_nx q_k24 C s n ((x_st (x_ifeq 37 27)) C z) := x_to_at f24_24 C s n z
theorem f24_27 : x_fetch q_k24 27 = x_lda 28 0 := rfl
theorem t24_27 (C : xF) (s n : Nat) (z : xS) : x_to q_k24 C s (n + 1) 27 z = x_nx q_k24 C s n ((x_lda 28 0) C z) := x_to_at f24_27 C s n z
theorem f24_28 : x_fetch q_k24 28 = x_ldi 29 1 := rfl
theorem t24_28 (C : xF) (s n : Nat) (z : xS) : x_to q_k24 C s (n + 1) 28 z = x_nx q_k24 C s n ((x_ldi 29 1) C z) := x_to_at f24_28 C s n z
theorem f24_29 : x_fetch q_k24 29 = x_cv 32 25 2 4 := rfl
theorem t24_29 (C : xF) (s n : Nat) (z : xS) : x_to q_k24 C s (n + 1) 29 z = x_nx q_k24 C s n ((x_cv 32 25 2 4) C z) := x_to_at f24_29 C s n z
theorem f24_32 : x_fetch q_k24 32 = x_st (x_ifeq 37 35) := rfl
theorem t24_32 (C : xF) (s n : Nat) (z : xS) : x_to q_k24 C s (n + 1) 32 z = x_nx q_k24 C s n ((x_st (x_ifeq 37 35)) C z) := x_to_at f24_32 C s n z
theorem f24_35 : x_fetch q_k24 35 = x_st (x_push 36 (.int (1))) := rfl
theorem t24_35 (C : xF) (s n : Nat) (z : xS) : x_to q_k24 C s (n + 1) 35 z = x_nx q_k24 C s n ((x_st (x_push 36 (.int (1)))) C z) := x_to_at f24_35 C s n z
theorem f24_36 : x_fetch q_k24 36 = x_ri (.boolean) := rfl
theorem t24_36 (C : xF) (s n : Nat) (z : xS) : x_to q_k24 C s (n + 1) 36 z = x_nx q_k24 C s n ((x_ri (.boolean)) C z) := x_to_at f24_36 C s n z
theorem f24_37 : x_fetch q_k24 37 = x_st (x_push 38 (.int (0))) := rfl
theorem t24_37 (C : xF) (s n : Nat) (z : xS) : x_to q_k24 C s (n + 1) 37 z = x_nx q_k24 C s n ((x_st (x_push 38 (.int (0)))) C z) := x_to_at f24_37 C s n z
theorem f24_38 : x_fetch q_k24 38 = x_sti 39 2 := rfl
theorem t24_38 (C : xF) (s n : Nat) (z : xS) : x_to q_k24 C s (n + 1) 38 z = x_nx q_k24 C s n ((x_sti 39 2) C z) := x_to_at f24_38 C s n z
theorem f24_39 : x_fetch q_k24 39 = x_ldi 40 2 := rfl
theorem t24_39 (C : xF) (s n : Nat) (z : xS) : x_to q_k24 C s (n + 1) 39 z = x_nx q_k24 C s n ((x_ldi 40 2) C z) := x_to_at f24_39 C s n z
theorem f24_40 : x_fetch q_k24 40 = x_ldi 41 1 := rfl
theorem t24_40 (C : xF) (s n : Nat) (z : xS) : x_to q_k24 C s (n + 1) 40 z = x_nx q_k24 C s n ((x_ldi 41 1) C z) := x_to_at f24_40 C s n z
theorem f24_41 : x_fetch q_k24 41 = x_st (x_icge 76 44) := rfl
theorem t24_41 (C : xF) (s n : Nat) (z : xS) : x_to q_k24 C s (n + 1) 41 z = x_nx q_k24 C s n ((x_st (x_icge 76 44)) C z) := x_to_at f24_41 C s n z
theorem f24_44 : x_fetch q_k24 44 = x_lda 45 0 := rfl
theorem t24_44 (C : xF) (s n : Nat) (z : xS) : x_to q_k24 C s (n + 1) 44 z = x_nx q_k24 C s n ((x_lda 45 0) C z) := x_to_at f24_44 C s n z
theorem f24_45 : x_fetch q_k24 45 = x_gf 48 4 2 := rfl
theorem t24_45 (C : xF) (s n : Nat) (z : xS) : x_to q_k24 C s (n + 1) 45 z = x_nx q_k24 C s n ((x_gf 48 4 2) C z) := x_to_at f24_45 C s n z
theorem f24_48 : x_fetch q_k24 48 = x_ldi 49 2 := rfl
theorem t24_48 (C : xF) (s n : Nat) (z : xS) : x_to q_k24 C s (n + 1) 48 z = x_nx q_k24 C s n ((x_ldi 49 2) C z) := x_to_at f24_48 C s n z
theorem f24_49 : x_fetch q_k24 49 = x_ald 50 1 := rfl
theorem t24_49 (C : xF) (s n : Nat) (z : xS) : x_to q_k24 C s (n + 1) 49 z = x_nx q_k24 C s n ((x_ald 50 1) C z) := x_to_at f24_49 C s n z
theorem f24_50 : x_fetch q_k24 50 = x_lda 51 0 := rfl
theorem t24_50 (C : xF) (s n : Nat) (z : xS) : x_to q_k24 C s (n + 1) 50 z = x_nx q_k24 C s n ((x_lda 51 0) C z) := x_to_at f24_50 C s n z
theorem f24_51 : x_fetch q_k24 51 = x_gf 54 4 2 := rfl
theorem t24_51 (C : xF) (s n : Nat) (z : xS) : x_to q_k24 C s (n + 1) 51 z = x_nx q_k24 C s n ((x_gf 54 4 2) C z) := x_to_at f24_51 C s n z
theorem f24_54 : x_fetch q_k24 54 = x_ldi 55 1 := rfl
theorem t24_54 (C : xF) (s n : Nat) (z : xS) : x_to q_k24 C s (n + 1) 54 z = x_nx q_k24 C s n ((x_ldi 55 1) C z) := x_to_at f24_54 C s n z
theorem f24_55 : x_fetch q_k24 55 = x_ald 56 1 := rfl
theorem t24_55 (C : xF) (s n : Nat) (z : xS) : x_to q_k24 C s (n + 1) 55 z = x_nx q_k24 C s n ((x_ald 56 1) C z) := x_to_at f24_55 C s n z
theorem f24_56 : x_fetch q_k24 56 = x_st (x_iceq 70 59) := rfl
theorem t24_56 (C : xF) (s n : Nat) (z : xS) : x_to q_k24 C s (n + 1) 56 z = x_nx q_k24 C s n ((x_st (x_iceq 70 59)) C z) := x_to_at f24_56 C s n z
theorem f24_59 : x_fetch q_k24 59 = x_lda 60 0 := rfl
theorem t24_59 (C : xF) (s n : Nat) (z : xS) : x_to q_k24 C s (n + 1) 59 z = x_nx q_k24 C s n ((x_lda 60 0) C z) := x_to_at f24_59 C s n z
theorem f24_60 : x_fetch q_k24 60 = x_ldi 61 2 := rfl
theorem t24_60 (C : xF) (s n : Nat) (z : xS) : x_to q_k24 C s (n + 1) 60 z = x_nx q_k24 C s n ((x_ldi 61 2) C z) := x_to_at f24_60 C s n z
theorem f24_61 : x_fetch q_k24 61 = x_ldi 62 1 := rfl
theorem t24_61 (C : xF) (s n : Nat) (z : xS) : x_to q_k24 C s (n + 1) 61 z = x_nx q_k24 C s n ((x_ldi 62 1) C z) := x_to_at f24_61 C s n z
theorem f24_62 : x_fetch q_k24 62 = x_cv 65 18 3 4 := rfl
theorem t24_62 (C : xF) (s n : Nat) (z : xS) : x_to q_k24 C s (n + 1) 62 z = x_nx q_k24 C s n ((x_cv 65 18 3 4) C z) := x_to_at f24_62 C s n z
theorem f24_65 : x_fetch q_k24 65 = x_st (x_ifeq 70 68) := rfl
theorem t24_65 (C : xF) (s n : Nat) (z : xS) : x_to q_k24 C s (n + 1) 65 z = x_nx q_k24 C s n ((x_st (x_ifeq 70 68)) C z) := x_to_at f24_65 C s n z
theorem f24_68 : x_fetch q_k24 68 = x_st (x_push 69 (.int (1))) := rfl
theorem t24_68 (C : xF) (s n : Nat) (z : xS) : x_to q_k24 C s (n + 1) 68 z = x_nx q_k24 C s n ((x_st (x_push 69 (.int (1)))) C z) := x_to_at f24_68 C s n z
theorem f24_69 : x_fetch q_k24 69 = x_ri (.boolean) := rfl
theorem t24_69 (C : xF) (s n : Nat) (z : xS) : x_to q_k24 C s (n + 1) 69 z = x_nx q_k24 C s n ((x_ri (.boolean)) C z) := x_to_at f24_69 C s n z
theorem f24_70 : x_fetch q_k24 70 = x_iinc 73 2 (1) := rfl
theorem t24_70 (C : xF) (s n : Nat) (z : xS) : x_to q_k24 C s (n + 1) 70 z = x_nx q_k24 C s n ((x_iinc 73 2 (1)) C z) := x_to_at f24_70 C s n z
theorem f24_73 : x_fetch q_k24 73 = x_st (x_goto 39) := rfl
theorem t24_73 (C : xF) (s n : Nat) (z : xS) : x_to q_k24 C s (n + 1) 73 z = x_nx q_k24 C s n ((x_st (x_goto 39)) C z) := x_to_at f24_73 C s n z
theorem f24_76 : x_fetch q_k24 76 = x_iinc 79 1 (1) := rfl
theorem t24_76 (C : xF) (s n : Nat) (z : xS) : x_to q_k24 C s (n + 1) 76 z = x_nx q_k24 C s n ((x_iinc 79 1 (1)) C z) := x_to_at f24_76 C s n z
theorem f24_79 : x_fetch q_k24 79 = x_st (x_goto 2) := rfl
theorem t24_79 (C : xF) (s n : Nat) (z : xS) : x_to q_k24 C s (n + 1) 79 z = x_nx q_k24 C s n ((x_st (x_goto 2)) C z) := x_to_at f24_79 C s n z
theorem f24_82 : x_fetch q_k24 82 = x_st (x_push 83 (.int (0))) := rfl
theorem t24_82 (C : xF) (s n : Nat) (z : xS) : x_to q_k24 C s (n + 1) 82 z = x_nx q_k24 C s n ((x_st (x_push 83 (.int (0)))) C z) := x_to_at f24_82 C s n z
theorem f24_83 : x_fetch q_k24 83 = x_ri (.boolean) := rfl
theorem t24_83 (C : xF) (s n : Nat) (z : xS) : x_to q_k24 C s (n + 1) 83 z = x_nx q_k24 C s n ((x_ri (.boolean)) C z) := x_to_at f24_83 C s n z
theorem f25_0 : x_fetch q_k25 0 = x_lda 1 0 := rfl
theorem t25_0 (C : xF) (s n : Nat) (z : xS) : x_to q_k25 C s (n + 1) 0 z = x_nx q_k25 C s n ((x_lda 1 0) C z) := x_to_at f25_0 C s n z
theorem f25_1 : x_fetch q_k25 1 = x_ldi 2 1 := rfl
theorem t25_1 (C : xF) (s n : Nat) (z : xS) : x_to q_k25 C s (n + 1) 1 z = x_nx q_k25 C s n ((x_ldi 2 1) C z) := x_to_at f25_1 C s n z
theorem f25_2 : x_fetch q_k25 2 = x_cv 5 11 2 4 := rfl
theorem t25_2 (C : xF) (s n : Nat) (z : xS) : x_to q_k25 C s (n + 1) 2 z = x_nx q_k25 C s n ((x_cv 5 11 2 4) C z) := x_to_at f25_2 C s n z
theorem f25_5 : x_fetch q_k25 5 = x_st (x_push 6 (.int (1))) := rfl
theorem t25_5 (C : xF) (s n : Nat) (z : xS) : x_to q_k25 C s (n + 1) 5 z = x_nx q_k25 C s n ((x_st (x_push 6 (.int (1)))) C z) := x_to_at f25_5 C s n z
theorem f25_6 : x_fetch q_k25 6 = x_st (x_bin 7 (fun a b => a + b)) := rfl
theorem t25_6 (C : xF) (s n : Nat) (z : xS) : x_to q_k25 C s (n + 1) 6 z = x_nx q_k25 C s n ((x_st (x_bin 7 (fun a b => a + b))) C z) := x_to_at f25_6 C s n z
theorem f25_7 : x_fetch q_k25 7 = x_sti 8 2 := rfl
theorem t25_7 (C : xF) (s n : Nat) (z : xS) : x_to q_k25 C s (n + 1) 7 z = x_nx q_k25 C s n ((x_sti 8 2) C z) := x_to_at f25_7 C s n z
theorem f25_8 : x_fetch q_k25 8 = x_lda 9 0 := rfl
theorem t25_8 (C : xF) (s n : Nat) (z : xS) : x_to q_k25 C s (n + 1) 8 z = x_nx q_k25 C s n ((x_lda 9 0) C z) := x_to_at f25_8 C s n z
theorem f25_9 : x_fetch q_k25 9 = x_ldi 10 2 := rfl
theorem t25_9 (C : xF) (s n : Nat) (z : xS) : x_to q_k25 C s (n + 1) 9 z = x_nx q_k25 C s n ((x_ldi 10 2) C z) := x_to_at f25_9 C s n z
theorem f25_10 : x_fetch q_k25 10 = x_cv 13 20 2 4 := rfl
theorem t25_10 (C : xF) (s n : Nat) (z : xS) : x_to q_k25 C s (n + 1) 10 z = x_nx q_k25 C s n ((x_cv 13 20 2 4) C z) := x_to_at f25_10 C s n z
theorem f25_13 : x_fetch q_k25 13 = x_sti 14 3 := rfl
theorem t25_13 (C : xF) (s n : Nat) (z : xS) : x_to q_k25 C s (n + 1) 13 z = x_nx q_k25 C s n ((x_sti 14 3) C z) := x_to_at f25_13 C s n z
theorem f25_14 : x_fetch q_k25 14 = x_ldi 15 3 := rfl
theorem t25_14 (C : xF) (s n : Nat) (z : xS) : x_to q_k25 C s (n + 1) 14 z = x_nx q_k25 C s n ((x_ldi 15 3) C z) := x_to_at f25_14 C s n z
theorem f25_15 : x_fetch q_k25 15 = x_ldi 16 2 := rfl
theorem t25_15 (C : xF) (s n : Nat) (z : xS) : x_to q_k25 C s (n + 1) 15 z = x_nx q_k25 C s n ((x_ldi 16 2) C z) := x_to_at f25_15 C s n z
theorem f25_16 : x_fetch q_k25 16 = x_st (x_bin 17 (fun a b => a - b)) := rfl
theorem t25_16 (C : xF) (s n : Nat) (z : xS) : x_to q_k25 C s (n + 1) 16 z = x_nx q_k25 C s n ((x_st (x_bin 17 (fun a b => a - b))) C z) := x_to_at f25_16 C s n z
theorem f25_17 : x_fetch q_k25 17 = x_lda 18 0 := rfl
theorem t25_17 (C : xF) (s n : Nat) (z : xS) : x_to q_k25 C s (n + 1) 17 z = x_nx q_k25 C s n ((x_lda 18 0) C z) := x_to_at f25_17 C s n z
theorem f25_18 : x_fetch q_k25 18 = x_gf 21 4 1 := rfl
theorem t25_18 (C : xF) (s n : Nat) (z : xS) : x_to q_k25 C s (n + 1) 18 z = x_nx q_k25 C s n ((x_gf 21 4 1) C z) := x_to_at f25_18 C s n z
theorem f25_21 : x_fetch q_k25 21 = x_ldi 22 1 := rfl
theorem t25_21 (C : xF) (s n : Nat) (z : xS) : x_to q_k25 C s (n + 1) 21 z = x_nx q_k25 C s n ((x_ldi 22 1) C z) := x_to_at f25_21 C s n z
theorem f25_22 : x_fetch q_k25 22 = x_ald 23 0 := rfl
theorem t25_22 (C : xF) (s n : Nat) (z : xS) : x_to q_k25 C s (n + 1) 22 z = x_nx q_k25 C s n ((x_ald 23 0) C z) := x_to_at f25_22 C s n z
theorem f25_23 : x_fetch q_k25 23 = x_ldi 24 3 := rfl
theorem t25_23 (C : xF) (s n : Nat) (z : xS) : x_to q_k25 C s (n + 1) 23 z = x_nx q_k25 C s n ((x_ldi 24 3) C z) := x_to_at f25_23 C s n z
theorem f25_24 : x_fetch q_k25 24 = x_st (x_bin 25 (fun a b => a - b)) := rfl
theorem t25_24 (C : xF) (s n : Nat) (z : xS) : x_to q_k25 C s (n + 1) 24 z = x_nx q_k25 C s n ((x_st (x_bin 25 (fun a b => a - b))) C z) := x_to_at f25_24 C s n z
theorem f25_25 : x_fetch q_k25 25 = x_st (x_icne 44 28) := rfl
theorem t25_25 (C : xF) (s n : Nat) (z : xS) : x_to q_k25 C s (n + 1) 25 z = x_nx q_k25 C s n ((x_st (x_icne 44 28)) C z) := x_to_at f25_25 C s n z
theorem f25_28 : x_fetch q_k25 28 = x_lda 29 0 := rfl
theorem t25_28 (C : xF) (s n : Nat) (z : xS) : x_to q_k25 C s (n + 1) 28 z = x_nx q_k25 C s n ((x_lda 29 0) C z) := x_to_at f25_28 C s n z
theorem f25_29 : x_fetch q_k25 29 = x_ldi 30 2 := rfl
theorem t25_29 (C : xF) (s n : Nat) (z : xS) : x_to q_k25 C s (n + 1) 29 z = x_nx q_k25 C s n ((x_ldi 30 2) C z) := x_to_at f25_29 C s n z
theorem f25_30 : x_fetch q_k25 30 = x_ldi 31 3 := rfl
theorem t25_30 (C : xF) (s n : Nat) (z : xS) : x_to q_k25 C s (n + 1) 30 z = x_nx q_k25 C s n ((x_ldi 31 3) C z) := x_to_at f25_30 C s n z
theorem f25_31 : x_fetch q_k25 31 = x_ldi 32 3 := rfl
theorem t25_31 (C : xF) (s n : Nat) (z : xS) : x_to q_k25 C s (n + 1) 31 z = x_nx q_k25 C s n ((x_ldi 32 3) C z) := x_to_at f25_31 C s n z
theorem f25_32 : x_fetch q_k25 32 = x_ldi 33 2 := rfl
theorem t25_32 (C : xF) (s n : Nat) (z : xS) : x_to q_k25 C s (n + 1) 32 z = x_nx q_k25 C s n ((x_ldi 33 2) C z) := x_to_at f25_32 C s n z
theorem f25_33 : x_fetch q_k25 33 = x_st (x_bin 34 (fun a b => a - b)) := rfl
theorem t25_33 (C : xF) (s n : Nat) (z : xS) : x_to q_k25 C s (n + 1) 33 z = x_nx q_k25 C s n ((x_st (x_bin 34 (fun a b => a - b))) C z) := x_to_at f25_33 C s n z
theorem f25_34 : x_fetch q_k25 34 = x_cv 37 19 4 4 := rfl
theorem t25_34 (C : xF) (s n : Nat) (z : xS) : x_to q_k25 C s (n + 1) 34 z = x_nx q_k25 C s n ((x_cv 37 19 4 4) C z) := x_to_at f25_34 C s n z
theorem f25_37 : x_fetch q_k25 37 = x_st (x_ifeq 44 40) := rfl
theorem t25_37 (C : xF) (s n : Nat) (z : xS) : x_to q_k25 C s (n + 1) 37 z = x_nx q_k25 C s n ((x_st (x_ifeq 44 40)) C z) := x_to_at f25_37 C s n z
theorem f25_40 : x_fetch q_k25 40 = x_st (x_push 41 (.int (1))) := rfl
theorem t25_40 (C : xF) (s n : Nat) (z : xS) : x_to q_k25 C s (n + 1) 40 z = x_nx q_k25 C s n ((x_st (x_push 41 (.int (1)))) C z) := x_to_at f25_40 C s n z
theorem f25_41 : x_fetch q_k25 41 = x_st (x_goto 45) := rfl
theorem t25_41 (C : xF) (s n : Nat) (z : xS) : x_to q_k25 C s (n + 1) 41 z = x_nx q_k25 C s n ((x_st (x_goto 45)) C z) := x_to_at f25_41 C s n z
theorem f25_44 : x_fetch q_k25 44 = x_st (x_push 45 (.int (0))) := rfl
theorem t25_44 (C : xF) (s n : Nat) (z : xS) : x_to q_k25 C s (n + 1) 44 z = x_nx q_k25 C s n ((x_st (x_push 45 (.int (0)))) C z) := x_to_at f25_44 C s n z
theorem f25_45 : x_fetch q_k25 45 = x_ri (.boolean) := rfl
theorem t25_45 (C : xF) (s n : Nat) (z : xS) : x_to q_k25 C s (n + 1) 45 z = x_nx q_k25 C s n ((x_ri (.boolean)) C z) := x_to_at f25_45 C s n z
