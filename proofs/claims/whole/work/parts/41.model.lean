/-! what stands at each place: the reference -/
theorem f101_0 : x_fetch q_k101 0 = x_ldi 1 0 := rfl
theorem t101_0 (C : xF) (s n : Nat) (z : xS) : x_to q_k101 C s (n + 1) 0 z = x_nx q_k101 C s n ((x_ldi 1 0) C z) := x_to_at f101_0 C s n z
theorem f101_1 : x_fetch q_k101 1 = x_st (x_push 3 (.int (99))) := rfl
theorem t101_1 (C : xF) (s n : Nat) (z : xS) : x_to q_k101 C s (n + 1) 1 z = x_nx q_k101 C s n ((x_st (x_push 3 (.int (99)))) C z) := x_to_at f101_1 C s n z
theorem f101_3 : x_fetch q_k101 3 = x_st (x_icge 10 6) := rfl
theorem t101_3 (C : xF) (s n : Nat) (z : xS) : x_to q_k101 C s (n + 1) 3 z = x_nx q_k101 C s n ((x_st (x_icge 10 6)) C z) := x_to_at f101_3 C s n z
theorem f101_6 : x_fetch q_k101 6 = x_st (x_push 7 (.int (0))) := rfl
theorem t101_6 (C : xF) (s n : Nat) (z : xS) : x_to q_k101 C s (n + 1) 6 z = x_nx q_k101 C s n ((x_st (x_push 7 (.int (0)))) C z) := x_to_at f101_6 C s n z
theorem f101_7 : x_fetch q_k101 7 = x_st (x_goto 26) := rfl
theorem t101_7 (C : xF) (s n : Nat) (z : xS) : x_to q_k101 C s (n + 1) 7 z = x_nx q_k101 C s n ((x_st (x_goto 26)) C z) := x_to_at f101_7 C s n z
theorem f101_10 : x_fetch q_k101 10 = x_ldi 11 0 := rfl
theorem t101_10 (C : xF) (s n : Nat) (z : xS) : x_to q_k101 C s (n + 1) 10 z = x_nx q_k101 C s n ((x_ldi 11 0) C z) := x_to_at f101_10 C s n z
theorem f101_11 : x_fetch q_k101 11 = x_st (x_push 13 (.int (99))) := rfl
theorem t101_11 (C : xF) (s n : Nat) (z : xS) : x_to q_k101 C s (n + 1) 11 z = x_nx q_k101 C s n ((x_st (x_push 13 (.int (99)))) C z) := x_to_at f101_11 C s n z
theorem f101_13 : x_fetch q_k101 13 = x_st (x_icne 20 16) := rfl
theorem t101_13 (C : xF) (s n : Nat) (z : xS) : x_to q_k101 C s (n + 1) 13 z = x_nx q_k101 C s n ((x_st (x_icne 20 16)) C z) := x_to_at f101_13 C s n z
theorem f101_16 : x_fetch q_k101 16 = x_st (x_push 17 (.int (2))) := rfl
theorem t101_16 (C : xF) (s n : Nat) (z : xS) : x_to q_k101 C s (n + 1) 16 z = x_nx q_k101 C s n ((x_st (x_push 17 (.int (2)))) C z) := x_to_at f101_16 C s n z
theorem f101_17 : x_fetch q_k101 17 = x_st (x_goto 26) := rfl
theorem t101_17 (C : xF) (s n : Nat) (z : xS) : x_to q_k101 C s (n + 1) 17 z = x_nx q_k101 C s n ((x_st (x_goto 26)) C z) := x_to_at f101_17 C s n z
theorem f101_20 : x_fetch q_k101 20 = x_ldi 21 0 := rfl
theorem t101_20 (C : xF) (s n : Nat) (z : xS) : x_to q_k101 C s (n + 1) 20 z = x_nx q_k101 C s n ((x_ldi 21 0) C z) := x_to_at f101_20 C s n z
theorem f101_21 : x_fetch q_k101 21 = x_st (x_push 23 (.int (100))) := rfl
theorem t101_21 (C : xF) (s n : Nat) (z : xS) : x_to q_k101 C s (n + 1) 21 z = x_nx q_k101 C s n ((x_st (x_push 23 (.int (100)))) C z) := x_to_at f101_21 C s n z
theorem f101_23 : x_fetch q_k101 23 = x_st (x_bin 24 (fun a b => a - b)) := rfl
theorem t101_23 (C : xF) (s n : Nat) (z : xS) : x_to q_k101 C s (n + 1) 23 z = x_nx q_k101 C s n ((x_st (x_bin 24 (fun a b => a - b))) C z) := x_to_at f101_23 C s n z
theorem f101_24 : x_fetch q_k101 24 = x_st (x_push 25 (.int (4))) := rfl
theorem t101_24 (C : xF) (s n : Nat) (z : xS) : x_to q_k101 C s (n + 1) 24 z = x_nx q_k101 C s n ((x_st (x_push 25 (.int (4)))) C z) := x_to_at f101_24 C s n z
theorem f101_25 : x_fetch q_k101 25 = x_st (x_div 26 (fun a b => a - a / b * b)) := rfl
theorem t101_25 (C : xF) (s n : Nat) (z : xS) : x_to q_k101 C s (n + 1) 25 z = x_nx q_k101 C s n ((x_st (x_div 26 (fun a b => a - a / b * b))) C z) := x_to_at f101_25 C s n z
theorem f101_26 : x_fetch q_k101 26 = x_ri (.int) := rfl
theorem t101_26 (C : xF) (s n : Nat) (z : xS) : x_to q_k101 C s (n + 1) 26 z = x_nx q_k101 C s n ((x_ri (.int)) C z) := x_to_at f101_26 C s n z
theorem f109_0 : x_fetch q_k109 0 = x_st (x_push 1 (.int (1))) := rfl
theorem t109_0 (C : xF) (s n : Nat) (z : xS) : x_to q_k109 C s (n + 1) 0 z = x_nx q_k109 C s n ((x_st (x_push 1 (.int (1)))) C z) := x_to_at f109_0 C s n z
theorem f109_1 : x_fetch q_k109 1 = x_sti 2 2 := rfl
theorem t109_1 (C : xF) (s n : Nat) (z : xS) : x_to q_k109 C s (n + 1) 1 z = x_nx q_k109 C s n ((x_sti 2 2) C z) := x_to_at f109_1 C s n z
theorem f109_2 : x_fetch q_k109 2 = x_ldi 3 1 := rfl
theorem t109_2 (C : xF) (s n : Nat) (z : xS) : x_to q_k109 C s (n + 1) 2 z = x_nx q_k109 C s n ((x_ldi 3 1) C z) := x_to_at f109_2 C s n z
theorem f109_3 : x_fetch q_k109 3 = x_sti 4 3 := rfl
theorem t109_3 (C : xF) (s n : Nat) (z : xS) : x_to q_k109 C s (n + 1) 3 z = x_nx q_k109 C s n ((x_sti 4 3) C z) := x_to_at f109_3 C s n z
theorem f109_4 : x_fetch q_k109 4 = x_ldi 5 2 := rfl
theorem t109_4 (C : xF) (s n : Nat) (z : xS) : x_to q_k109 C s (n + 1) 4 z = x_nx q_k109 C s n ((x_ldi 5 2) C z) := x_to_at f109_4 C s n z
theorem f109_5 : x_fetch q_k109 5 = x_st (x_ifle 28 8) := rfl
theorem t109_5 (C : xF) (s n : Nat) (z : xS) : x_to q_k109 C s (n + 1) 5 z = x_nx q_k109 C s n ((x_st (x_ifle 28 8)) C z) := x_to_at f109_5 C s n z
theorem f109_8 : x_fetch q_k109 8 = x_ldi 9 2 := rfl
theorem t109_8 (C : xF) (s n : Nat) (z : xS) : x_to q_k109 C s (n + 1) 8 z = x_nx q_k109 C s n ((x_ldi 9 2) C z) := x_to_at f109_8 C s n z
theorem f109_9 : x_fetch q_k109 9 = x_lda 10 0 := rfl
theorem t109_9 (C : xF) (s n : Nat) (z : xS) : x_to q_k109 C s (n + 1) 9 z = x_nx q_k109 C s n ((x_lda 10 0) C z) := x_to_at f109_9 C s n z
theorem f109_10 : x_fetch q_k109 10 = x_gf 13 8 29 := rfl
theorem t109_10 (C : xF) (s n : Nat) (z : xS) : x_to q_k109 C s (n + 1) 10 z = x_nx q_k109 C s n ((x_gf 13 8 29) C z) := x_to_at f109_10 C s n z
theorem f109_13 : x_fetch q_k109 13 = x_ldi 14 3 := rfl
theorem t109_13 (C : xF) (s n : Nat) (z : xS) : x_to q_k109 C s (n + 1) 13 z = x_nx q_k109 C s n ((x_ldi 14 3) C z) := x_to_at f109_13 C s n z
theorem f109_14 : x_fetch q_k109 14 = x_ald 15 0 := rfl
theorem t109_14 (C : xF) (s n : Nat) (z : xS) : x_to q_k109 C s (n + 1) 14 z = x_nx q_k109 C s n ((x_ald 15 0) C z) := x_to_at f109_14 C s n z
theorem f109_15 : x_fetch q_k109 15 = x_cl_ 18 101 1 := rfl
theorem t109_15 (C : xF) (s n : Nat) (z : xS) : x_to q_k109 C s (n + 1) 15 z = x_nx q_k109 C s n ((x_cl_ 18 101 1) C z) := x_to_at f109_15 C s n z
theorem f109_18 : x_fetch q_k109 18 = x_st (x_bin 19 (fun a b => a + b)) := rfl
theorem t109_18 (C : xF) (s n : Nat) (z : xS) : x_to q_k109 C s (n + 1) 18 z = x_nx q_k109 C s n ((x_st (x_bin 19 (fun a b => a + b))) C z) := x_to_at f109_18 C s n z
theorem f109_19 : x_fetch q_k109 19 = x_st (x_push 20 (.int (1))) := rfl
theorem t109_19 (C : xF) (s n : Nat) (z : xS) : x_to q_k109 C s (n + 1) 19 z = x_nx q_k109 C s n ((x_st (x_push 20 (.int (1)))) C z) := x_to_at f109_19 C s n z
theorem f109_20 : x_fetch q_k109 20 = x_st (x_bin 21 (fun a b => a - b)) := rfl
theorem t109_20 (C : xF) (s n : Nat) (z : xS) : x_to q_k109 C s (n + 1) 20 z = x_nx q_k109 C s n ((x_st (x_bin 21 (fun a b => a - b))) C z) := x_to_at f109_20 C s n z
theorem f109_21 : x_fetch q_k109 21 = x_sti 22 2 := rfl
theorem t109_21 (C : xF) (s n : Nat) (z : xS) : x_to q_k109 C s (n + 1) 21 z = x_nx q_k109 C s n ((x_sti 22 2) C z) := x_to_at f109_21 C s n z
theorem f109_22 : x_fetch q_k109 22 = x_iinc 25 3 (1) := rfl
theorem t109_22 (C : xF) (s n : Nat) (z : xS) : x_to q_k109 C s (n + 1) 22 z = x_nx q_k109 C s n ((x_iinc 25 3 (1)) C z) := x_to_at f109_22 C s n z
theorem f109_25 : x_fetch q_k109 25 = x_st (x_goto 4) := rfl
theorem t109_25 (C : xF) (s n : Nat) (z : xS) : x_to q_k109 C s (n + 1) 25 z = x_nx q_k109 C s n ((x_st (x_goto 4)) C z) := x_to_at f109_25 C s n z
theorem f109_28 : x_fetch q_k109 28 = x_ldi 29 3 := rfl
theorem t109_28 (C : xF) (s n : Nat) (z : xS) : x_to q_k109 C s (n + 1) 28 z = x_nx q_k109 C s n ((x_ldi 29 3) C z) := x_to_at f109_28 C s n z
theorem f109_29 : x_fetch q_k109 29 = x_ri (.int) := rfl
theorem t109_29 (C : xF) (s n : Nat) (z : xS) : x_to q_k109 C s (n + 1) 29 z = x_nx q_k109 C s n ((x_ri (.int)) C z) := x_to_at f109_29 C s n z
theorem f111_0 : x_fetch q_k111 0 = x_ldi 1 1 := rfl
theorem t111_0 (C : xF) (s n : Nat) (z : xS) : x_to q_k111 C s (n + 1) 0 z = x_nx q_k111 C s n ((x_ldi 1 1) C z) := x_to_at f111_0 C s n z
theorem f111_1 : x_fetch q_k111 1 = x_sti 2 2 := rfl
theorem t111_1 (C : xF) (s n : Nat) (z : xS) : x_to q_k111 C s (n + 1) 1 z = x_nx q_k111 C s n ((x_sti 2 2) C z) := x_to_at f111_1 C s n z
theorem f111_2 : x_fetch q_k111 2 = x_lda 3 0 := rfl
theorem t111_2 (C : xF) (s n : Nat) (z : xS) : x_to q_k111 C s (n + 1) 2 z = x_nx q_k111 C s n ((x_lda 3 0) C z) := x_to_at f111_2 C s n z
theorem f111_3 : x_fetch q_k111 3 = x_gf 6 8 29 := rfl
theorem t111_3 (C : xF) (s n : Nat) (z : xS) : x_to q_k111 C s (n + 1) 3 z = x_nx q_k111 C s n ((x_gf 6 8 29) C z) := x_to_at f111_3 C s n z
theorem f111_6 : x_fetch q_k111 6 = x_ldi 7 2 := rfl
theorem t111_6 (C : xF) (s n : Nat) (z : xS) : x_to q_k111 C s (n + 1) 6 z = x_nx q_k111 C s n ((x_ldi 7 2) C z) := x_to_at f111_6 C s n z
theorem f111_7 : x_fetch q_k111 7 = x_ald 8 0 := rfl
theorem t111_7 (C : xF) (s n : Nat) (z : xS) : x_to q_k111 C s (n + 1) 7 z = x_nx q_k111 C s n ((x_ald 8 0) C z) := x_to_at f111_7 C s n z
theorem f111_8 : x_fetch q_k111 8 = x_st (x_push 10 (.int (99))) := rfl
theorem t111_8 (C : xF) (s n : Nat) (z : xS) : x_to q_k111 C s (n + 1) 8 z = x_nx q_k111 C s n ((x_st (x_push 10 (.int (99)))) C z) := x_to_at f111_8 C s n z
theorem f111_10 : x_fetch q_k111 10 = x_st (x_icge 42 13) := rfl
theorem t111_10 (C : xF) (s n : Nat) (z : xS) : x_to q_k111 C s (n + 1) 10 z = x_nx q_k111 C s n ((x_st (x_icge 42 13)) C z) := x_to_at f111_10 C s n z
theorem f111_13 : x_fetch q_k111 13 = x_lda 14 0 := rfl
theorem t111_13 (C : xF) (s n : Nat) (z : xS) : x_to q_k111 C s (n + 1) 13 z = x_nx q_k111 C s n ((x_lda 14 0) C z) := x_to_at f111_13 C s n z
theorem f111_14 : x_fetch q_k111 14 = x_gf 17 8 30 := rfl
theorem t111_14 (C : xF) (s n : Nat) (z : xS) : x_to q_k111 C s (n + 1) 14 z = x_nx q_k111 C s n ((x_gf 17 8 30) C z) := x_to_at f111_14 C s n z
theorem f111_17 : x_fetch q_k111 17 = x_lda 18 0 := rfl
theorem t111_17 (C : xF) (s n : Nat) (z : xS) : x_to q_k111 C s (n + 1) 17 z = x_nx q_k111 C s n ((x_lda 18 0) C z) := x_to_at f111_17 C s n z
theorem f111_18 : x_fetch q_k111 18 = x_gf 21 8 29 := rfl
theorem t111_18 (C : xF) (s n : Nat) (z : xS) : x_to q_k111 C s (n + 1) 18 z = x_nx q_k111 C s n ((x_gf 21 8 29) C z) := x_to_at f111_18 C s n z
theorem f111_21 : x_fetch q_k111 21 = x_ldi 22 2 := rfl
theorem t111_21 (C : xF) (s n : Nat) (z : xS) : x_to q_k111 C s (n + 1) 21 z = x_nx q_k111 C s n ((x_ldi 22 2) C z) := x_to_at f111_21 C s n z
theorem f111_22 : x_fetch q_k111 22 = x_ald 23 0 := rfl
theorem t111_22 (C : xF) (s n : Nat) (z : xS) : x_to q_k111 C s (n + 1) 22 z = x_nx q_k111 C s n ((x_ald 23 0) C z) := x_to_at f111_22 C s n z
theorem f111_23 : x_fetch q_k111 23 = x_ald 24 0 := rfl
theorem t111_23 (C : xF) (s n : Nat) (z : xS) : x_to q_k111 C s (n + 1) 23 z = x_nx q_k111 C s n ((x_ald 24 0) C z) := x_to_at f111_23 C s n z
theorem f111_24 : x_fetch q_k111 24 = x_st (x_iflt 42 27) := rfl
theorem t111_24 (C : xF) (s n : Nat) (z : xS) : x_to q_k111 C s (n + 1) 24 z = x_nx q_k111 C s n ((x_st (x_iflt 42 27)) C z) := x_to_at f111_24 C s n z
theorem f111_27 : x_fetch q_k111 27 = x_lda 28 0 := rfl
theorem t111_27 (C : xF) (s n : Nat) (z : xS) : x_to q_k111 C s (n + 1) 27 z = x_nx q_k111 C s n ((x_lda 28 0) C z) := x_to_at f111_27 C s n z
theorem f111_28 : x_fetch q_k111 28 = x_gf 31 8 30 := rfl
theorem t111_28 (C : xF) (s n : Nat) (z : xS) : x_to q_k111 C s (n + 1) 28 z = x_nx q_k111 C s n ((x_gf 31 8 30) C z) := x_to_at f111_28 C s n z
theorem f111_31 : x_fetch q_k111 31 = x_lda 32 0 := rfl
theorem t111_31 (C : xF) (s n : Nat) (z : xS) : x_to q_k111 C s (n + 1) 31 z = x_nx q_k111 C s n ((x_lda 32 0) C z) := x_to_at f111_31 C s n z
theorem f111_32 : x_fetch q_k111 32 = x_gf 35 8 29 := rfl
theorem t111_32 (C : xF) (s n : Nat) (z : xS) : x_to q_k111 C s (n + 1) 32 z = x_nx q_k111 C s n ((x_gf 35 8 29) C z) := x_to_at f111_32 C s n z
theorem f111_35 : x_fetch q_k111 35 = x_ldi 36 2 := rfl
theorem t111_35 (C : xF) (s n : Nat) (z : xS) : x_to q_k111 C s (n + 1) 35 z = x_nx q_k111 C s n ((x_ldi 36 2) C z) := x_to_at f111_35 C s n z
theorem f111_36 : x_fetch q_k111 36 = x_ald 37 0 := rfl
theorem t111_36 (C : xF) (s n : Nat) (z : xS) : x_to q_k111 C s (n + 1) 36 z = x_nx q_k111 C s n ((x_ald 37 0) C z) := x_to_at f111_36 C s n z
theorem f111_37 : x_fetch q_k111 37 = x_ald 38 0 := rfl
theorem t111_37 (C : xF) (s n : Nat) (z : xS) : x_to q_k111 C s (n + 1) 37 z = x_nx q_k111 C s n ((x_ald 38 0) C z) := x_to_at f111_37 C s n z
theorem f111_38 : x_fetch q_k111 38 = x_sti 39 2 := rfl
theorem t111_38 (C : xF) (s n : Nat) (z : xS) : x_to q_k111 C s (n + 1) 38 z = x_nx q_k111 C s n ((x_sti 39 2) C z) := x_to_at f111_38 C s n z
theorem f111_39 : x_fetch q_k111 39 = x_st (x_goto 2) := rfl
theorem t111_39 (C : xF) (s n : Nat) (z : xS) : x_to q_k111 C s (n + 1) 39 z = x_nx q_k111 C s n ((x_st (x_goto 2)) C z) := x_to_at f111_39 C s n z
theorem f111_42 : x_fetch q_k111 42 = x_ldi 43 2 := rfl
theorem t111_42 (C : xF) (s n : Nat) (z : xS) : x_to q_k111 C s (n + 1) 42 z = x_nx q_k111 C s n ((x_ldi 43 2) C z) := x_to_at f111_42 C s n z
theorem f111_43 : x_fetch q_k111 43 = x_ri (.int) := rfl
theorem t111_43 (C : xF) (s n : Nat) (z : xS) : x_to q_k111 C s (n + 1) 43 z = x_nx q_k111 C s n ((x_ri (.int)) C z) := x_to_at f111_43 C s n z
/-! the reference: small methods -/
theorem m101 (d : Nat) (w : Nat → xC) (N : Nat) (s : Int) (h1 : -1000 ≤ s) (h2 : s < 2147483648) : Xc (d + 1) 101 [.int (iZ s)] (hp w N) (some (.int (iZ (ar s : Int))), hp w N) := by
  refine Xc.of rfl (by simp [lg_sl, Value.category]) ?_ x_le.rf
  refine Gx.fin 20 Cs.tt (fun C _ => ?_)
  by_cases h : s < 99
  · have e : ar s = 0 := ar_v h
    have b1 : ¬ 99 ≤ s := by omega
    simp (disch := first | (refine c1_id ?_; assumption) | (refine c1_st rfl ?_; first | assumption | (refine c1_st rfl ?_; first | assumption | (refine c1_st rfl ?_; first | assumption | (refine c1_st rfl ?_; assumption)))) | omega) [nx_l, nx_r, nx_n, x_st, x_push, x_bin, x_div, x_un, x_dup, x_pop, x_dup2, x_goto, x_ifeq, x_ifne, x_iflt, x_ifge, x_ifgt, x_ifle, x_iceq, x_icne, x_iclt, x_icge, x_icgt, x_icle, x_ifnull, x_ifnonnull, x_ldi, x_lda, x_sti, x_sta, x_iinc, x_gf, x_pf, x_ald, x_ast, x_aln, x_len, x_cl_, x_cv, x_cs, x_rc, x_r0, x_isT, x_oi, x_rv, x_ri, x_ra, Value.category, t101_0, t101_1, t101_3, t101_6, t101_7, t101_10, t101_11, t101_13, t101_16, t101_17, t101_20, t101_21, t101_23, t101_24, t101_25, t101_26, lk_s, hp_get, hp_set, uH_at, uH_ne, uH_upd, uH_swap, iZ_add, iZ_sub, iZ_mul, iZ_neg, iZ_lt, iZ_le, iZ_eq, iZ_div, iZ_of, ix_Z, gZ_map, gZ_mapI, gZ_map', le_0, le_s, sZ_map, sZ_len, bZ_0, bZ_inj, bZ_t, bZ_f, nr_i, nr_0, nr_1, nr_b, ft_i, ft_b, ft_0, ft_1, zl_0, zl_1, zl_2, zl_4, zl_99, zl_100, lv_args, x_lk, e, b1, -List.filter_filter, -List.getElem?_map, -List.getD_eq_getElem?_getD]
  · by_cases h9 : s = 99
    · have e : ar s = 2 := by
        unfold ar
        rw [if_neg h, if_pos h9]
      subst h9
      simp (disch := first | (refine c1_id ?_; assumption) | (refine c1_st rfl ?_; first | assumption | (refine c1_st rfl ?_; first | assumption | (refine c1_st rfl ?_; first | assumption | (refine c1_st rfl ?_; assumption)))) | omega) [nx_l, nx_r, nx_n, x_st, x_push, x_bin, x_div, x_un, x_dup, x_pop, x_dup2, x_goto, x_ifeq, x_ifne, x_iflt, x_ifge, x_ifgt, x_ifle, x_iceq, x_icne, x_iclt, x_icge, x_icgt, x_icle, x_ifnull, x_ifnonnull, x_ldi, x_lda, x_sti, x_sta, x_iinc, x_gf, x_pf, x_ald, x_ast, x_aln, x_len, x_cl_, x_cv, x_cs, x_rc, x_r0, x_isT, x_oi, x_rv, x_ri, x_ra, Value.category, t101_0, t101_1, t101_3, t101_6, t101_7, t101_10, t101_11, t101_13, t101_16, t101_17, t101_20, t101_21, t101_23, t101_24, t101_25, t101_26, lk_s, hp_get, hp_set, uH_at, uH_ne, uH_upd, uH_swap, iZ_add, iZ_sub, iZ_mul, iZ_neg, iZ_lt, iZ_le, iZ_eq, iZ_div, iZ_of, ix_Z, gZ_map, gZ_mapI, gZ_map', le_0, le_s, sZ_map, sZ_len, bZ_0, bZ_inj, bZ_t, bZ_f, nr_i, nr_0, nr_1, nr_b, ft_i, ft_b, ft_0, ft_1, zl_0, zl_1, zl_2, zl_4, zl_99, zl_100, lv_args, x_lk, e, -List.filter_filter, -List.getElem?_map, -List.getD_eq_getElem?_getD]
    · have e : s - 100 - (s - 100) / 4 * 4 = (ar s : Int) := by
        unfold ar
        rw [if_neg h, if_neg h9]
        omega
      have b1 : 99 ≤ s := by omega
      simp (disch := first | (refine c1_id ?_; assumption) | (refine c1_st rfl ?_; first | assumption | (refine c1_st rfl ?_; first | assumption | (refine c1_st rfl ?_; first | assumption | (refine c1_st rfl ?_; assumption)))) | omega) [nx_l, nx_r, nx_n, x_st, x_push, x_bin, x_div, x_un, x_dup, x_pop, x_dup2, x_goto, x_ifeq, x_ifne, x_iflt, x_ifge, x_ifgt, x_ifle, x_iceq, x_icne, x_iclt, x_icge, x_icgt, x_icle, x_ifnull, x_ifnonnull, x_ldi, x_lda, x_sti, x_sta, x_iinc, x_gf, x_pf, x_ald, x_ast, x_aln, x_len, x_cl_, x_cv, x_cs, x_rc, x_r0, x_isT, x_oi, x_rv, x_ri, x_ra, Value.category, t101_0, t101_1, t101_3, t101_6, t101_7, t101_10, t101_11, t101_13, t101_16, t101_17, t101_20, t101_21, t101_23, t101_24, t101_25, t101_26, lk_s, hp_get, hp_set, uH_at, uH_ne, uH_upd, uH_swap, iZ_add, iZ_sub, iZ_mul, iZ_neg, iZ_lt, iZ_le, iZ_eq, iZ_div, iZ_of, ix_Z, gZ_map, gZ_mapI, gZ_map', le_0, le_s, sZ_map, sZ_len, bZ_0, bZ_inj, bZ_t, bZ_f, nr_i, nr_0, nr_1, nr_b, ft_i, ft_b, ft_0, ft_1, zl_0, zl_1, zl_2, zl_4, zl_99, zl_100, lv_args, x_lk, e, b1, h9, -List.filter_filter, -List.getElem?_map, -List.getD_eq_getElem?_getD]
section MO
variable {w : Nat → xC} {N : Nat} {m : Nat → Int} {S : List Int}
/-- the object and its row of places -/
theorem l109 (d : Nat) (hN : 53 ≤ N) (hm : w 27 = .inr (8, mF m)) (hS : w 45 = cI 0 S) (hl : S.length < 10000) (hr : ∀ i, 0 ≤ gZ S i ∧ gZ S i < 100000) : ∀ (k : Nat) (t q : Int) (lv : xL), 0 ≤ t → 0 ≤ q → (tk t.toNat (S.drop q.toNat)).length = k → Ts t.toNat (tk t.toNat (S.drop q.toNat)) → c1 lv → x_lk lv 0 = some (.ref 30) → x_lk lv 2 = some (.int (iZ t)) → x_lk lv 3 = some (.int (iZ q)) →
    Gx q_k109 (d + 1) 4 (lv, [], hp w N) (some (.int (iZ (q + k))), hp w N) := by
  intro k
  induction k with
  | zero =>
    intro t q lv h0 h1 hk hT hc l0 l2 l3
    rw [List.eq_nil_of_length_eq_zero hk, Ts_nil] at hT
    obtain rfl : t = 0 := by omega
    refine Gx.fin 20 Cs.tt (fun C _ => ?_)
    simp (disch := first | (refine c1_id ?_; assumption) | (refine c1_st rfl ?_; first | assumption | (refine c1_st rfl ?_; first | assumption | (refine c1_st rfl ?_; first | assumption | (refine c1_st rfl ?_; assumption)))) | omega) [nx_l, nx_r, nx_n, x_st, x_push, x_bin, x_div, x_un, x_dup, x_pop, x_dup2, x_goto, x_ifeq, x_ifne, x_iflt, x_ifge, x_ifgt, x_ifle, x_iceq, x_icne, x_iclt, x_icge, x_icgt, x_icle, x_ifnull, x_ifnonnull, x_ldi, x_lda, x_sti, x_sta, x_iinc, x_gf, x_pf, x_ald, x_ast, x_aln, x_len, x_cl_, x_cv, x_cs, x_rc, x_r0, x_isT, x_oi, x_rv, x_ri, x_ra, Value.category, t109_0, t109_1, t109_2, t109_3, t109_4, t109_5, t109_8, t109_9, t109_10, t109_13, t109_14, t109_15, t109_18, t109_19, t109_20, t109_21, t109_22, t109_25, t109_28, t109_29, lk_s, hp_get, hp_set, uH_at, uH_ne, uH_upd, uH_swap, iZ_add, iZ_sub, iZ_mul, iZ_neg, iZ_lt, iZ_le, iZ_eq, iZ_div, iZ_of, ix_Z, gZ_map, gZ_mapI, gZ_map', le_0, le_s, sZ_map, sZ_len, bZ_0, bZ_inj, bZ_t, bZ_f, nr_i, nr_0, nr_1, nr_b, ft_i, ft_b, ft_0, ft_1, zl_0, zl_1, mF_len, mg_0, mg_1, mg_2, mg_3, mg_4, mg_5, mg_6, mg_7, mg_8, mg_9, mg_10, mg_11, mg_12, mg_13, mg_14, mg_15, mg_16, mg_17, mg_18, mg_19, mg_20, mg_21, mg_22, mg_23, mg_24, mg_25, mg_26, mg_27, mg_28, mg_29, mg_30, mg_31, mg_32, mg_33, mg_34, mg_35, mg_36, mg_37, mg_38, ms_0, ms_1, ms_2, ms_13, ms_14, ms_15, ms_16, ms_21, ms_22, ms_23, ms_24, ms_28, ms_36, ms_37, ms_38, st_at, st_ne, st_st, st_swap, l2, l3, -List.filter_filter, -List.getElem?_map, -List.getD_eq_getElem?_getD]
  | succ k ih =>
    intro t q lv h0 h1 hk hT hc l0 l2 l3
    obtain ⟨s1, s2, s3, s4, s5, s6⟩ := tk_step h0 h1 hk hT
    have hg := hr q
    have ha := ar_le (gZ S q)
    have mm := m101 d w N (gZ S q) (by omega) (by omega)
    have e9 : q + ((k + 1 : Nat) : Int) = q + 1 + (k : Int) := by omega
    rw [e9]
    refine Gx.run 40 mm (fun C mm => ?_) (ih (t + (ar (gZ S q) : Int) - 1) (q + 1) ((3, .int (iZ (q + 1))) :: List.filter (x_keep 3) ((2, .int (iZ (t + (ar (gZ S q) : Int) - 1))) :: List.filter (x_keep 2) lv)) s6 (by omega) s4 s5 (c1_st rfl (c1_st rfl hc)) ?_ ?_ ?_)
    · have b1 : ¬ t ≤ 0 := by omega
      simp (disch := first | (refine c1_id ?_; assumption) | (refine c1_st rfl ?_; first | assumption | (refine c1_st rfl ?_; first | assumption | (refine c1_st rfl ?_; first | assumption | (refine c1_st rfl ?_; assumption)))) | omega) [nx_l, nx_r, nx_n, x_st, x_push, x_bin, x_div, x_un, x_dup, x_pop, x_dup2, x_goto, x_ifeq, x_ifne, x_iflt, x_ifge, x_ifgt, x_ifle, x_iceq, x_icne, x_iclt, x_icge, x_icgt, x_icle, x_ifnull, x_ifnonnull, x_ldi, x_lda, x_sti, x_sta, x_iinc, x_gf, x_pf, x_ald, x_ast, x_aln, x_len, x_cl_, x_cv, x_cs, x_rc, x_r0, x_isT, x_oi, x_rv, x_ri, x_ra, Value.category, t109_0, t109_1, t109_2, t109_3, t109_4, t109_5, t109_8, t109_9, t109_10, t109_13, t109_14, t109_15, t109_18, t109_19, t109_20, t109_21, t109_22, t109_25, t109_28, t109_29, lk_s, hp_get, hp_set, uH_at, uH_ne, uH_upd, uH_swap, iZ_add, iZ_sub, iZ_mul, iZ_neg, iZ_lt, iZ_le, iZ_eq, iZ_div, iZ_of, ix_Z, gZ_map, gZ_mapI, gZ_map', le_0, le_s, sZ_map, sZ_len, bZ_0, bZ_inj, bZ_t, bZ_f, nr_i, nr_0, nr_1, nr_b, ft_i, ft_b, ft_0, ft_1, zl_0, zl_1, mF_len, mg_0, mg_1, mg_2, mg_3, mg_4, mg_5, mg_6, mg_7, mg_8, mg_9, mg_10, mg_11, mg_12, mg_13, mg_14, mg_15, mg_16, mg_17, mg_18, mg_19, mg_20, mg_21, mg_22, mg_23, mg_24, mg_25, mg_26, mg_27, mg_28, mg_29, mg_30, mg_31, mg_32, mg_33, mg_34, mg_35, mg_36, mg_37, mg_38, ms_0, ms_1, ms_2, ms_13, ms_14, ms_15, ms_16, ms_21, ms_22, ms_23, ms_24, ms_28, ms_36, ms_37, ms_38, st_at, st_ne, st_st, st_swap, l0, l2, l3, hm, hS, mm, b1, -List.filter_filter, -List.getElem?_map, -List.getD_eq_getElem?_getD]
    · rw [lk_s (c1_st rfl hc), lk_s hc]; exact l0
    · rw [lk_s (c1_st rfl hc), lk_s hc]; rfl
    · rw [lk_s (c1_st rfl hc)]; rfl
theorem m109 (d : Nat) (hN : 53 ≤ N) (hm : w 27 = .inr (8, mF m)) (hS : w 45 = cI 0 S) (hl : S.length < 10000) (hr : ∀ i, 0 ≤ gZ S i ∧ gZ S i < 100000) (p : Int) (h0 : 0 ≤ p) (hT : Ts 1 (tm S p.toNat)) :
    Xc (d + 2) 109 [.ref 30, .int (iZ p)] (hp w N) (some (.int (iZ (p + (tm S p.toNat).length))), hp w N) := by
  refine Xc.of rfl (by simp [lg_sl, Value.category]) ?_ x_le.rf
  have hc : c1 (lv_args 0 [.ref 30, .int (iZ p)]) := by simp [c1, lv_args, Value.category]
  have l0 : x_lk (lv_args 0 [.ref 30, .int (iZ p)]) 0 = some (.ref 30) := rfl
  have l1 : x_lk (lv_args 0 [.ref 30, .int (iZ p)]) 1 = some (.int (iZ p)) := rfl
  generalize lv_args 0 [.ref 30, .int (iZ p)] = lv at hc l0 l1
  refine Gx.run 20 Cs.tt (fun C _ => ?_) (l109 d hN hm hS hl hr (tm S p.toNat).length 1 p ((3, .int (iZ p)) :: List.filter (x_keep 3) ((2, .int (iZ 1)) :: List.filter (x_keep 2) lv)) (by omega) h0 rfl hT (c1_st rfl (c1_st rfl hc)) ?_ ?_ ?_)
  · simp (disch := first | (refine c1_id ?_; assumption) | (refine c1_st rfl ?_; first | assumption | (refine c1_st rfl ?_; first | assumption | (refine c1_st rfl ?_; first | assumption | (refine c1_st rfl ?_; assumption)))) | omega) [nx_l, nx_r, nx_n, x_st, x_push, x_bin, x_div, x_un, x_dup, x_pop, x_dup2, x_goto, x_ifeq, x_ifne, x_iflt, x_ifge, x_ifgt, x_ifle, x_iceq, x_icne, x_iclt, x_icge, x_icgt, x_icle, x_ifnull, x_ifnonnull, x_ldi, x_lda, x_sti, x_sta, x_iinc, x_gf, x_pf, x_ald, x_ast, x_aln, x_len, x_cl_, x_cv, x_cs, x_rc, x_r0, x_isT, x_oi, x_rv, x_ri, x_ra, Value.category, t109_0, t109_1, t109_2, t109_3, t109_4, t109_5, t109_8, t109_9, t109_10, t109_13, t109_14, t109_15, t109_18, t109_19, t109_20, t109_21, t109_22, t109_25, t109_28, t109_29, lk_s, hp_get, hp_set, uH_at, uH_ne, uH_upd, uH_swap, iZ_add, iZ_sub, iZ_mul, iZ_neg, iZ_lt, iZ_le, iZ_eq, iZ_div, iZ_of, ix_Z, gZ_map, gZ_mapI, gZ_map', le_0, le_s, sZ_map, sZ_len, bZ_0, bZ_inj, bZ_t, bZ_f, nr_i, nr_0, nr_1, nr_b, ft_i, ft_b, ft_0, ft_1, zl_0, zl_1, mF_len, mg_0, mg_1, mg_2, mg_3, mg_4, mg_5, mg_6, mg_7, mg_8, mg_9, mg_10, mg_11, mg_12, mg_13, mg_14, mg_15, mg_16, mg_17, mg_18, mg_19, mg_20, mg_21, mg_22, mg_23, mg_24, mg_25, mg_26, mg_27, mg_28, mg_29, mg_30, mg_31, mg_32, mg_33, mg_34, mg_35, mg_36, mg_37, mg_38, ms_0, ms_1, ms_2, ms_13, ms_14, ms_15, ms_16, ms_21, ms_22, ms_23, ms_24, ms_28, ms_36, ms_37, ms_38, st_at, st_ne, st_st, st_swap, l0, l1, -List.filter_filter, -List.getElem?_map, -List.getD_eq_getElem?_getD]
  · rw [lk_s (c1_st rfl hc), lk_s hc]; exact l0
  · rw [lk_s (c1_st rfl hc), lk_s hc]; rfl
  · rw [lk_s (c1_st rfl hc)]; rfl
end MO
def bdf (Bd : List Int) (v : Int) : Int := if 0 ≤ v ∧ v < 52 then gZ Bd v else -1
theorem bdf_in {Bd : List Int} {v : Int} (h0 : 0 ≤ v) (h1 : v < 52) : bdf Bd v = gZ Bd v := if_pos ⟨h0, h1⟩
section LD
variable {w : Nat → xC} {N : Nat} {m : Nat → Int} {S Bd : List Int} {ρ : Int → List Int}
theorem l111 (d : Nat) (hN : 53 ≤ N) (hm : w 27 = .inr (8, mF m)) (hS : w 45 = cI 0 S) (hB : w 46 = cI 0 Bd) (hl : S.length < 10000) (hbl : Bd.length = 52) (hr : ∀ i, 0 ≤ gZ S i ∧ gZ S i < 100000) (hv : ∀ i, gZ S i < 99 → gZ S i < 52) (hb : ∀ v, 0 ≤ v → v < 52 → -1 ≤ gZ Bd v ∧ gZ Bd v < S.length) (hρ : RB S (bdf Bd) ρ) :
    ∀ (k : Nat) (q : Int) (lv : xL), 0 ≤ q → q < S.length → (sub ρ (tm S q.toNat)).length ≤ k → c1 lv → x_lk lv 0 = some (.ref 30) → x_lk lv 2 = some (.int (iZ q)) → Gx q_k111 d 2 (lv, [], hp w N) (some (.int (iZ (ld S (bdf Bd) k q.toNat))), hp w N) := by
  have stop : ∀ (k : Nat) (q : Int) (lv : xL), 0 ≤ q → q < S.length → c1 lv → x_lk lv 0 = some (.ref 30) → x_lk lv 2 = some (.int (iZ q)) → ¬ (pz S q.toNat < 99 ∧ 0 ≤ bdf Bd (pz S q.toNat)) → ld S (bdf Bd) k q.toNat = q.toNat → Gx q_k111 d 2 (lv, [], hp w N) (some (.int (iZ (ld S (bdf Bd) k q.toNat))), hp w N) := by
    intro k q lv h0 h1 hc l0 l2 hn he
    rw [he]
    have e9 : ((q.toNat : Nat) : Int) = q := by omega
    rw [e9]
    have g1 := hr q
    refine Gx.fin 60 Cs.tt (fun C _ => ?_)
    by_cases h2 : gZ S q < 99
    · have h3 := hv q h2
      have h4 := hb (gZ S q) g1.1 h3
      have h5 : gZ Bd (gZ S q) < 0 := by
        rw [← gZ_pz, bdf_in g1.1 h3] at hn
        omega
      have b1 : ¬ 99 ≤ gZ S q := by omega
      simp (disch := first | (refine c1_id ?_; assumption) | (refine c1_st rfl ?_; first | assumption | (refine c1_st rfl ?_; first | assumption | (refine c1_st rfl ?_; first | assumption | (refine c1_st rfl ?_; assumption)))) | omega) [nx_l, nx_r, nx_n, x_st, x_push, x_bin, x_div, x_un, x_dup, x_pop, x_dup2, x_goto, x_ifeq, x_ifne, x_iflt, x_ifge, x_ifgt, x_ifle, x_iceq, x_icne, x_iclt, x_icge, x_icgt, x_icle, x_ifnull, x_ifnonnull, x_ldi, x_lda, x_sti, x_sta, x_iinc, x_gf, x_pf, x_ald, x_ast, x_aln, x_len, x_cl_, x_cv, x_cs, x_rc, x_r0, x_isT, x_oi, x_rv, x_ri, x_ra, Value.category, t111_0, t111_1, t111_2, t111_3, t111_6, t111_7, t111_8, t111_10, t111_13, t111_14, t111_17, t111_18, t111_21, t111_22, t111_23, t111_24, t111_27, t111_28, t111_31, t111_32, t111_35, t111_36, t111_37, t111_38, t111_39, t111_42, t111_43, lk_s, hp_get, hp_set, uH_at, uH_ne, uH_upd, uH_swap, iZ_add, iZ_sub, iZ_mul, iZ_neg, iZ_lt, iZ_le, iZ_eq, iZ_div, iZ_of, ix_Z, gZ_map, gZ_mapI, gZ_map', le_0, le_s, sZ_map, sZ_len, bZ_0, bZ_inj, bZ_t, bZ_f, nr_i, nr_0, nr_1, nr_b, ft_i, ft_b, ft_0, ft_1, zl_0, zl_1, zl_99, mF_len, mg_0, mg_1, mg_2, mg_3, mg_4, mg_5, mg_6, mg_7, mg_8, mg_9, mg_10, mg_11, mg_12, mg_13, mg_14, mg_15, mg_16, mg_17, mg_18, mg_19, mg_20, mg_21, mg_22, mg_23, mg_24, mg_25, mg_26, mg_27, mg_28, mg_29, mg_30, mg_31, mg_32, mg_33, mg_34, mg_35, mg_36, mg_37, mg_38, ms_0, ms_1, ms_2, ms_13, ms_14, ms_15, ms_16, ms_21, ms_22, ms_23, ms_24, ms_28, ms_36, ms_37, ms_38, st_at, st_ne, st_st, st_swap, l0, l2, hm, hS, hB, b1, h5, -List.filter_filter, -List.getElem?_map, -List.getD_eq_getElem?_getD]
    · have b1 : 99 ≤ gZ S q := by omega
      simp (disch := first | (refine c1_id ?_; assumption) | (refine c1_st rfl ?_; first | assumption | (refine c1_st rfl ?_; first | assumption | (refine c1_st rfl ?_; first | assumption | (refine c1_st rfl ?_; assumption)))) | omega) [nx_l, nx_r, nx_n, x_st, x_push, x_bin, x_div, x_un, x_dup, x_pop, x_dup2, x_goto, x_ifeq, x_ifne, x_iflt, x_ifge, x_ifgt, x_ifle, x_iceq, x_icne, x_iclt, x_icge, x_icgt, x_icle, x_ifnull, x_ifnonnull, x_ldi, x_lda, x_sti, x_sta, x_iinc, x_gf, x_pf, x_ald, x_ast, x_aln, x_len, x_cl_, x_cv, x_cs, x_rc, x_r0, x_isT, x_oi, x_rv, x_ri, x_ra, Value.category, t111_0, t111_1, t111_2, t111_3, t111_6, t111_7, t111_8, t111_10, t111_13, t111_14, t111_17, t111_18, t111_21, t111_22, t111_23, t111_24, t111_27, t111_28, t111_31, t111_32, t111_35, t111_36, t111_37, t111_38, t111_39, t111_42, t111_43, lk_s, hp_get, hp_set, uH_at, uH_ne, uH_upd, uH_swap, iZ_add, iZ_sub, iZ_mul, iZ_neg, iZ_lt, iZ_le, iZ_eq, iZ_div, iZ_of, ix_Z, gZ_map, gZ_mapI, gZ_map', le_0, le_s, sZ_map, sZ_len, bZ_0, bZ_inj, bZ_t, bZ_f, nr_i, nr_0, nr_1, nr_b, ft_i, ft_b, ft_0, ft_1, zl_0, zl_1, zl_99, mF_len, mg_0, mg_1, mg_2, mg_3, mg_4, mg_5, mg_6, mg_7, mg_8, mg_9, mg_10, mg_11, mg_12, mg_13, mg_14, mg_15, mg_16, mg_17, mg_18, mg_19, mg_20, mg_21, mg_22, mg_23, mg_24, mg_25, mg_26, mg_27, mg_28, mg_29, mg_30, mg_31, mg_32, mg_33, mg_34, mg_35, mg_36, mg_37, mg_38, ms_0, ms_1, ms_2, ms_13, ms_14, ms_15, ms_16, ms_21, ms_22, ms_23, ms_24, ms_28, ms_36, ms_37, ms_38, st_at, st_ne, st_st, st_swap, l0, l2, hm, hS, hB, b1, -List.filter_filter, -List.getElem?_map, -List.getD_eq_getElem?_getD]
  intro k
  induction k with
  | zero =>
    intro q lv h0 h1 h2 hc l0 l2
    refine stop 0 q lv h0 h1 hc l0 l2 (fun g => ?_) rfl
    have : sub ρ (tm S q.toNat) = [] := List.eq_nil_of_length_eq_zero (by omega)
    rw [val_v ρ (by omega) g.1, (hρ _ g.1).2 g.2] at this
    cases this
  | succ k ih =>
    intro q lv h0 h1 h2 hc l0 l2
    by_cases g : pz S q.toNat < 99 ∧ 0 ≤ bdf Bd (pz S q.toNat)
    · have e1 : ld S (bdf Bd) (k + 1) q.toNat = ld S (bdf Bd) k (bdf Bd (pz S q.toNat)).toNat := if_pos g
      have g1 := hr q
      have g2 : gZ S q < 99 := g.1
      have g3 := hv q g2
      have g4 := hb (gZ S q) g1.1 g3
      have g5 := g.2
      have h9 := h2
      rw [val_v ρ (by omega) g.1, (hρ _ g.1).2 g.2, List.length_cons] at h9
      rw [← gZ_pz, bdf_in g1.1 g3] at g5 h9 e1
      rw [e1]
      refine Gx.run 60 Cs.tt (fun C _ => ?_) (ih (gZ Bd (gZ S q)) ((2, .int (iZ (gZ Bd (gZ S q)))) :: List.filter (x_keep 2) lv) g5 g4.2 (by omega) (c1_st rfl hc) (by rw [lk_s hc]; exact l0) (by rw [lk_s hc]; rfl))
      have b1 : ¬ 99 ≤ gZ S q := by omega
      have b2 : ¬ gZ Bd (gZ S q) < 0 := by omega
      simp (disch := first | (refine c1_id ?_; assumption) | (refine c1_st rfl ?_; first | assumption | (refine c1_st rfl ?_; first | assumption | (refine c1_st rfl ?_; first | assumption | (refine c1_st rfl ?_; assumption)))) | omega) [nx_l, nx_r, nx_n, x_st, x_push, x_bin, x_div, x_un, x_dup, x_pop, x_dup2, x_goto, x_ifeq, x_ifne, x_iflt, x_ifge, x_ifgt, x_ifle, x_iceq, x_icne, x_iclt, x_icge, x_icgt, x_icle, x_ifnull, x_ifnonnull, x_ldi, x_lda, x_sti, x_sta, x_iinc, x_gf, x_pf, x_ald, x_ast, x_aln, x_len, x_cl_, x_cv, x_cs, x_rc, x_r0, x_isT, x_oi, x_rv, x_ri, x_ra, Value.category, t111_0, t111_1, t111_2, t111_3, t111_6, t111_7, t111_8, t111_10, t111_13, t111_14, t111_17, t111_18, t111_21, t111_22, t111_23, t111_24, t111_27, t111_28, t111_31, t111_32, t111_35, t111_36, t111_37, t111_38, t111_39, t111_42, t111_43, lk_s, hp_get, hp_set, uH_at, uH_ne, uH_upd, uH_swap, iZ_add, iZ_sub, iZ_mul, iZ_neg, iZ_lt, iZ_le, iZ_eq, iZ_div, iZ_of, ix_Z, gZ_map, gZ_mapI, gZ_map', le_0, le_s, sZ_map, sZ_len, bZ_0, bZ_inj, bZ_t, bZ_f, nr_i, nr_0, nr_1, nr_b, ft_i, ft_b, ft_0, ft_1, zl_0, zl_1, zl_99, mF_len, mg_0, mg_1, mg_2, mg_3, mg_4, mg_5, mg_6, mg_7, mg_8, mg_9, mg_10, mg_11, mg_12, mg_13, mg_14, mg_15, mg_16, mg_17, mg_18, mg_19, mg_20, mg_21, mg_22, mg_23, mg_24, mg_25, mg_26, mg_27, mg_28, mg_29, mg_30, mg_31, mg_32, mg_33, mg_34, mg_35, mg_36, mg_37, mg_38, ms_0, ms_1, ms_2, ms_13, ms_14, ms_15, ms_16, ms_21, ms_22, ms_23, ms_24, ms_28, ms_36, ms_37, ms_38, st_at, st_ne, st_st, st_swap, l0, l2, hm, hS, hB, b1, b2, -List.filter_filter, -List.getElem?_map, -List.getD_eq_getElem?_getD]
    · exact stop (k + 1) q lv h0 h1 hc l0 l2 g (if_neg g)
end LD
