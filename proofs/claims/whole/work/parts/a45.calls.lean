/-! the class: given and step -/
theorem f69_0 : x_fetch q_k69 0 = x_lda 1 0 := rfl
theorem t69_0 (C : xF) (s n : Nat) (z : xS) : x_to q_k69 C s (n + 1) 0 z = x_nx q_k69 C s n ((x_lda 1 0) C z) := x_to_at f69_0 C s n z
theorem f69_1 : x_fetch q_k69 1 = x_cv 4 82 1 0 := rfl
theorem t69_1 (C : xF) (s n : Nat) (z : xS) : x_to q_k69 C s (n + 1) 1 z = x_nx q_k69 C s n ((x_cv 4 82 1 0) C z) := x_to_at f69_1 C s n z
theorem f69_4 : x_fetch q_k69 4 = x_lda 5 0 := rfl
theorem t69_4 (C : xF) (s n : Nat) (z : xS) : x_to q_k69 C s (n + 1) 4 z = x_nx q_k69 C s n ((x_lda 5 0) C z) := x_to_at f69_4 C s n z
theorem f69_5 : x_fetch q_k69 5 = x_lda 6 0 := rfl
theorem t69_5 (C : xF) (s n : Nat) (z : xS) : x_to q_k69 C s (n + 1) 5 z = x_nx q_k69 C s n ((x_lda 6 0) C z) := x_to_at f69_5 C s n z
theorem f69_6 : x_fetch q_k69 6 = x_gf 9 0 6 := rfl
theorem t69_6 (C : xF) (s n : Nat) (z : xS) : x_to q_k69 C s (n + 1) 6 z = x_nx q_k69 C s n ((x_gf 9 0 6) C z) := x_to_at f69_6 C s n z
theorem f69_9 : x_fetch q_k69 9 = x_st (x_ifne 26 12) := rfl
theorem t69_9 (C : xF) (s n : Nat) (z : xS) : x_to q_k69 C s (n + 1) 9 z = x_nx q_k69 C s n ((x_st (x_ifne 26 12)) C z) := x_to_at f69_9 C s n z
theorem f69_12 : x_fetch q_k69 12 = x_lda 13 0 := rfl
theorem t69_12 (C : xF) (s n : Nat) (z : xS) : x_to q_k69 C s (n + 1) 12 z = x_nx q_k69 C s n ((x_lda 13 0) C z) := x_to_at f69_12 C s n z
theorem f69_13 : x_fetch q_k69 13 = x_gf 16 0 2 := rfl
theorem t69_13 (C : xF) (s n : Nat) (z : xS) : x_to q_k69 C s (n + 1) 13 z = x_nx q_k69 C s n ((x_gf 16 0 2) C z) := x_to_at f69_13 C s n z
theorem f69_16 : x_fetch q_k69 16 = x_st (x_push 18 (.int (30))) := rfl
theorem t69_16 (C : xF) (s n : Nat) (z : xS) : x_to q_k69 C s (n + 1) 16 z = x_nx q_k69 C s n ((x_st (x_push 18 (.int (30)))) C z) := x_to_at f69_16 C s n z
theorem f69_18 : x_fetch q_k69 18 = x_st (x_iclt 26 21) := rfl
theorem t69_18 (C : xF) (s n : Nat) (z : xS) : x_to q_k69 C s (n + 1) 18 z = x_nx q_k69 C s n ((x_st (x_iclt 26 21)) C z) := x_to_at f69_18 C s n z
theorem f69_21 : x_fetch q_k69 21 = x_st (x_push 23 (.int (-3))) := rfl
theorem t69_21 (C : xF) (s n : Nat) (z : xS) : x_to q_k69 C s (n + 1) 21 z = x_nx q_k69 C s n ((x_st (x_push 23 (.int (-3)))) C z) := x_to_at f69_21 C s n z
theorem f69_23 : x_fetch q_k69 23 = x_st (x_goto 30) := rfl
theorem t69_23 (C : xF) (s n : Nat) (z : xS) : x_to q_k69 C s (n + 1) 23 z = x_nx q_k69 C s n ((x_st (x_goto 30)) C z) := x_to_at f69_23 C s n z
theorem f69_26 : x_fetch q_k69 26 = x_lda 27 0 := rfl
theorem t69_26 (C : xF) (s n : Nat) (z : xS) : x_to q_k69 C s (n + 1) 26 z = x_nx q_k69 C s n ((x_lda 27 0) C z) := x_to_at f69_26 C s n z
theorem f69_27 : x_fetch q_k69 27 = x_gf 30 0 6 := rfl
theorem t69_27 (C : xF) (s n : Nat) (z : xS) : x_to q_k69 C s (n + 1) 27 z = x_nx q_k69 C s n ((x_gf 30 0 6) C z) := x_to_at f69_27 C s n z
theorem f69_30 : x_fetch q_k69 30 = x_pf 33 0 9 (.int) := rfl
theorem t69_30 (C : xF) (s n : Nat) (z : xS) : x_to q_k69 C s (n + 1) 30 z = x_nx q_k69 C s n ((x_pf 33 0 9 (.int)) C z) := x_to_at f69_30 C s n z
theorem f69_33 : x_fetch q_k69 33 = x_lda 34 0 := rfl
theorem t69_33 (C : xF) (s n : Nat) (z : xS) : x_to q_k69 C s (n + 1) 33 z = x_nx q_k69 C s n ((x_lda 34 0) C z) := x_to_at f69_33 C s n z
theorem f69_34 : x_fetch q_k69 34 = x_gf 37 0 9 := rfl
theorem t69_34 (C : xF) (s n : Nat) (z : xS) : x_to q_k69 C s (n + 1) 34 z = x_nx q_k69 C s n ((x_gf 37 0 9) C z) := x_to_at f69_34 C s n z
theorem f69_37 : x_fetch q_k69 37 = x_st (x_push 39 (.int (-3))) := rfl
theorem t69_37 (C : xF) (s n : Nat) (z : xS) : x_to q_k69 C s (n + 1) 37 z = x_nx q_k69 C s n ((x_st (x_push 39 (.int (-3)))) C z) := x_to_at f69_37 C s n z
theorem f69_39 : x_fetch q_k69 39 = x_st (x_icne 52 42) := rfl
theorem t69_39 (C : xF) (s n : Nat) (z : xS) : x_to q_k69 C s (n + 1) 39 z = x_nx q_k69 C s n ((x_st (x_icne 52 42)) C z) := x_to_at f69_39 C s n z
theorem f69_42 : x_fetch q_k69 42 = x_thr 10 := rfl
theorem t69_42 (C : xF) (s n : Nat) (z : xS) : x_to q_k69 C s (n + 1) 42 z = x_nx q_k69 C s n ((x_thr 10) C z) := x_to_at f69_42 C s n z
theorem f69_45 : x_fetch q_k69 45 = x_st (x_dup 46) := rfl
theorem t69_45 (C : xF) (s n : Nat) (z : xS) : x_to q_k69 C s (n + 1) 45 z = x_nx q_k69 C s n ((x_st (x_dup 46)) C z) := x_to_at f69_45 C s n z
theorem f69_46 : x_fetch q_k69 46 = fun _ _ => none := rfl
theorem t69_46 (C : xF) (s n : Nat) (z : xS) : x_to q_k69 C s (n + 1) 46 z = x_nx q_k69 C s n ((fun _ _ => none) C z) := x_to_at f69_46 C s n z
theorem f69_48 : x_fetch q_k69 48 = fun _ _ => none := rfl
theorem t69_48 (C : xF) (s n : Nat) (z : xS) : x_to q_k69 C s (n + 1) 48 z = x_nx q_k69 C s n ((fun _ _ => none) C z) := x_to_at f69_48 C s n z
theorem f69_51 : x_fetch q_k69 51 = fun _ _ => none := rfl
theorem t69_51 (C : xF) (s n : Nat) (z : xS) : x_to q_k69 C s (n + 1) 51 z = x_nx q_k69 C s n ((fun _ _ => none) C z) := x_to_at f69_51 C s n z
theorem f69_52 : x_fetch q_k69 52 = x_lda 53 0 := rfl
theorem t69_52 (C : xF) (s n : Nat) (z : xS) : x_to q_k69 C s (n + 1) 52 z = x_nx q_k69 C s n ((x_lda 53 0) C z) := x_to_at f69_52 C s n z
theorem f69_53 : x_fetch q_k69 53 = x_gf 56 0 9 := rfl
theorem t69_53 (C : xF) (s n : Nat) (z : xS) : x_to q_k69 C s (n + 1) 53 z = x_nx q_k69 C s n ((x_gf 56 0 9) C z) := x_to_at f69_53 C s n z
theorem f69_56 : x_fetch q_k69 56 = x_st (x_ifeq 69 59) := rfl
theorem t69_56 (C : xF) (s n : Nat) (z : xS) : x_to q_k69 C s (n + 1) 56 z = x_nx q_k69 C s n ((x_st (x_ifeq 69 59)) C z) := x_to_at f69_56 C s n z
theorem f69_59 : x_fetch q_k69 59 = x_thr 9 := rfl
theorem t69_59 (C : xF) (s n : Nat) (z : xS) : x_to q_k69 C s (n + 1) 59 z = x_nx q_k69 C s n ((x_thr 9) C z) := x_to_at f69_59 C s n z
theorem f69_62 : x_fetch q_k69 62 = x_st (x_dup 63) := rfl
theorem t69_62 (C : xF) (s n : Nat) (z : xS) : x_to q_k69 C s (n + 1) 62 z = x_nx q_k69 C s n ((x_st (x_dup 63)) C z) := x_to_at f69_62 C s n z
theorem f69_63 : x_fetch q_k69 63 = fun _ _ => none := rfl
theorem t69_63 (C : xF) (s n : Nat) (z : xS) : x_to q_k69 C s (n + 1) 63 z = x_nx q_k69 C s n ((fun _ _ => none) C z) := x_to_at f69_63 C s n z
theorem f69_65 : x_fetch q_k69 65 = fun _ _ => none := rfl
theorem t69_65 (C : xF) (s n : Nat) (z : xS) : x_to q_k69 C s (n + 1) 65 z = x_nx q_k69 C s n ((fun _ _ => none) C z) := x_to_at f69_65 C s n z
theorem f69_68 : x_fetch q_k69 68 = fun _ _ => none := rfl
theorem t69_68 (C : xF) (s n : Nat) (z : xS) : x_to q_k69 C s (n + 1) 68 z = x_nx q_k69 C s n ((fun _ _ => none) C z) := x_to_at f69_68 C s n z
theorem f69_69 : x_fetch q_k69 69 = x_lda 70 0 := rfl
theorem t69_69 (C : xF) (s n : Nat) (z : xS) : x_to q_k69 C s (n + 1) 69 z = x_nx q_k69 C s n ((x_lda 70 0) C z) := x_to_at f69_69 C s n z
theorem f69_70 : x_fetch q_k69 70 = x_lda 71 0 := rfl
theorem t69_70 (C : xF) (s n : Nat) (z : xS) : x_to q_k69 C s (n + 1) 70 z = x_nx q_k69 C s n ((x_lda 71 0) C z) := x_to_at f69_70 C s n z
theorem f69_71 : x_fetch q_k69 71 = x_gf 74 0 4 := rfl
theorem t69_71 (C : xF) (s n : Nat) (z : xS) : x_to q_k69 C s (n + 1) 71 z = x_nx q_k69 C s n ((x_gf 74 0 4) C z) := x_to_at f69_71 C s n z
theorem f69_74 : x_fetch q_k69 74 = x_st (x_push 75 (.int (0))) := rfl
theorem t69_74 (C : xF) (s n : Nat) (z : xS) : x_to q_k69 C s (n + 1) 74 z = x_nx q_k69 C s n ((x_st (x_push 75 (.int (0)))) C z) := x_to_at f69_74 C s n z
theorem f69_75 : x_fetch q_k69 75 = x_st (x_push 76 (.int (1))) := rfl
theorem t69_75 (C : xF) (s n : Nat) (z : xS) : x_to q_k69 C s (n + 1) 75 z = x_nx q_k69 C s n ((x_st (x_push 76 (.int (1)))) C z) := x_to_at f69_75 C s n z
theorem f69_76 : x_fetch q_k69 76 = x_lda 77 0 := rfl
theorem t69_76 (C : xF) (s n : Nat) (z : xS) : x_to q_k69 C s (n + 1) 76 z = x_nx q_k69 C s n ((x_lda 77 0) C z) := x_to_at f69_76 C s n z
theorem f69_77 : x_fetch q_k69 77 = x_gf 80 0 2 := rfl
theorem t69_77 (C : xF) (s n : Nat) (z : xS) : x_to q_k69 C s (n + 1) 77 z = x_nx q_k69 C s n ((x_gf 80 0 2) C z) := x_to_at f69_77 C s n z
theorem f69_80 : x_fetch q_k69 80 = x_st (x_bin 81 (fun a b => a <<< (b &&& 31))) := rfl
theorem t69_80 (C : xF) (s n : Nat) (z : xS) : x_to q_k69 C s (n + 1) 80 z = x_nx q_k69 C s n ((x_st (x_bin 81 (fun a b => a <<< (b &&& 31)))) C z) := x_to_at f69_80 C s n z
theorem f69_81 : x_fetch q_k69 81 = x_cv 84 88 4 0 := rfl
theorem t69_81 (C : xF) (s n : Nat) (z : xS) : x_to q_k69 C s (n + 1) 81 z = x_nx q_k69 C s n ((x_cv 84 88 4 0) C z) := x_to_at f69_81 C s n z
theorem f69_84 : x_fetch q_k69 84 = x_lda 85 0 := rfl
theorem t69_84 (C : xF) (s n : Nat) (z : xS) : x_to q_k69 C s (n + 1) 84 z = x_nx q_k69 C s n ((x_lda 85 0) C z) := x_to_at f69_84 C s n z
theorem f69_85 : x_fetch q_k69 85 = x_gf 88 0 2 := rfl
theorem t69_85 (C : xF) (s n : Nat) (z : xS) : x_to q_k69 C s (n + 1) 85 z = x_nx q_k69 C s n ((x_gf 88 0 2) C z) := x_to_at f69_85 C s n z
theorem f69_88 : x_fetch q_k69 88 = x_st (x_push 89 (.int (1))) := rfl
theorem t69_88 (C : xF) (s n : Nat) (z : xS) : x_to q_k69 C s (n + 1) 88 z = x_nx q_k69 C s n ((x_st (x_push 89 (.int (1)))) C z) := x_to_at f69_88 C s n z
theorem f69_89 : x_fetch q_k69 89 = x_st (x_bin 90 (fun a b => a - b)) := rfl
theorem t69_89 (C : xF) (s n : Nat) (z : xS) : x_to q_k69 C s (n + 1) 89 z = x_nx q_k69 C s n ((x_st (x_bin 90 (fun a b => a - b))) C z) := x_to_at f69_89 C s n z
theorem f69_90 : x_fetch q_k69 90 = x_ri (.int) := rfl
theorem t69_90 (C : xF) (s n : Nat) (z : xS) : x_to q_k69 C s (n + 1) 90 z = x_nx q_k69 C s n ((x_ri (.int)) C z) := x_to_at f69_90 C s n z
theorem f70_0 : x_fetch q_k70 0 = x_lda 1 0 := rfl
theorem t70_0 (C : xF) (s n : Nat) (z : xS) : x_to q_k70 C s (n + 1) 0 z = x_nx q_k70 C s n ((x_lda 1 0) C z) := x_to_at f70_0 C s n z
theorem f70_1 : x_fetch q_k70 1 = x_cv 4 82 1 0 := rfl
theorem t70_1 (C : xF) (s n : Nat) (z : xS) : x_to q_k70 C s (n + 1) 1 z = x_nx q_k70 C s n ((x_cv 4 82 1 0) C z) := x_to_at f70_1 C s n z
theorem f70_4 : x_fetch q_k70 4 = x_lda 5 0 := rfl
theorem t70_4 (C : xF) (s n : Nat) (z : xS) : x_to q_k70 C s (n + 1) 4 z = x_nx q_k70 C s n ((x_lda 5 0) C z) := x_to_at f70_4 C s n z
theorem f70_5 : x_fetch q_k70 5 = x_lda 6 0 := rfl
theorem t70_5 (C : xF) (s n : Nat) (z : xS) : x_to q_k70 C s (n + 1) 5 z = x_nx q_k70 C s n ((x_lda 6 0) C z) := x_to_at f70_5 C s n z
theorem f70_6 : x_fetch q_k70 6 = x_ldi 7 1 := rfl
theorem t70_6 (C : xF) (s n : Nat) (z : xS) : x_to q_k70 C s (n + 1) 6 z = x_nx q_k70 C s n ((x_ldi 7 1) C z) := x_to_at f70_6 C s n z
theorem f70_7 : x_fetch q_k70 7 = x_ldi 8 2 := rfl
theorem t70_7 (C : xF) (s n : Nat) (z : xS) : x_to q_k70 C s (n + 1) 7 z = x_nx q_k70 C s n ((x_ldi 8 2) C z) := x_to_at f70_7 C s n z
theorem f70_8 : x_fetch q_k70 8 = x_ldi 9 3 := rfl
theorem t70_8 (C : xF) (s n : Nat) (z : xS) : x_to q_k70 C s (n + 1) 8 z = x_nx q_k70 C s n ((x_ldi 9 3) C z) := x_to_at f70_8 C s n z
theorem f70_9 : x_fetch q_k70 9 = x_ldi 11 4 := rfl
theorem t70_9 (C : xF) (s n : Nat) (z : xS) : x_to q_k70 C s (n + 1) 9 z = x_nx q_k70 C s n ((x_ldi 11 4) C z) := x_to_at f70_9 C s n z
theorem f70_11 : x_fetch q_k70 11 = x_ldi 13 5 := rfl
theorem t70_11 (C : xF) (s n : Nat) (z : xS) : x_to q_k70 C s (n + 1) 11 z = x_nx q_k70 C s n ((x_ldi 13 5) C z) := x_to_at f70_11 C s n z
theorem f70_13 : x_fetch q_k70 13 = x_ldi 15 6 := rfl
theorem t70_13 (C : xF) (s n : Nat) (z : xS) : x_to q_k70 C s (n + 1) 13 z = x_nx q_k70 C s n ((x_ldi 15 6) C z) := x_to_at f70_13 C s n z
theorem f70_15 : x_fetch q_k70 15 = x_cv 18 83 7 0 := rfl
theorem t70_15 (C : xF) (s n : Nat) (z : xS) : x_to q_k70 C s (n + 1) 15 z = x_nx q_k70 C s n ((x_cv 18 83 7 0) C z) := x_to_at f70_15 C s n z
theorem f70_18 : x_fetch q_k70 18 = x_pf 21 0 9 (.int) := rfl
theorem t70_18 (C : xF) (s n : Nat) (z : xS) : x_to q_k70 C s (n + 1) 18 z = x_nx q_k70 C s n ((x_pf 21 0 9 (.int)) C z) := x_to_at f70_18 C s n z
theorem f70_21 : x_fetch q_k70 21 = x_lda 22 0 := rfl
theorem t70_21 (C : xF) (s n : Nat) (z : xS) : x_to q_k70 C s (n + 1) 21 z = x_nx q_k70 C s n ((x_lda 22 0) C z) := x_to_at f70_21 C s n z
theorem f70_22 : x_fetch q_k70 22 = x_gf 25 0 9 := rfl
theorem t70_22 (C : xF) (s n : Nat) (z : xS) : x_to q_k70 C s (n + 1) 22 z = x_nx q_k70 C s n ((x_gf 25 0 9) C z) := x_to_at f70_22 C s n z
theorem f70_25 : x_fetch q_k70 25 = x_st (x_push 27 (.int (-3))) := rfl
theorem t70_25 (C : xF) (s n : Nat) (z : xS) : x_to q_k70 C s (n + 1) 25 z = x_nx q_k70 C s n ((x_st (x_push 27 (.int (-3)))) C z) := x_to_at f70_25 C s n z
theorem f70_27 : x_fetch q_k70 27 = x_st (x_icne 40 30) := rfl
theorem t70_27 (C : xF) (s n : Nat) (z : xS) : x_to q_k70 C s (n + 1) 27 z = x_nx q_k70 C s n ((x_st (x_icne 40 30)) C z) := x_to_at f70_27 C s n z
theorem f70_30 : x_fetch q_k70 30 = x_thr 10 := rfl
theorem t70_30 (C : xF) (s n : Nat) (z : xS) : x_to q_k70 C s (n + 1) 30 z = x_nx q_k70 C s n ((x_thr 10) C z) := x_to_at f70_30 C s n z
theorem f70_33 : x_fetch q_k70 33 = x_st (x_dup 34) := rfl
theorem t70_33 (C : xF) (s n : Nat) (z : xS) : x_to q_k70 C s (n + 1) 33 z = x_nx q_k70 C s n ((x_st (x_dup 34)) C z) := x_to_at f70_33 C s n z
theorem f70_34 : x_fetch q_k70 34 = fun _ _ => none := rfl
theorem t70_34 (C : xF) (s n : Nat) (z : xS) : x_to q_k70 C s (n + 1) 34 z = x_nx q_k70 C s n ((fun _ _ => none) C z) := x_to_at f70_34 C s n z
theorem f70_36 : x_fetch q_k70 36 = fun _ _ => none := rfl
theorem t70_36 (C : xF) (s n : Nat) (z : xS) : x_to q_k70 C s (n + 1) 36 z = x_nx q_k70 C s n ((fun _ _ => none) C z) := x_to_at f70_36 C s n z
theorem f70_39 : x_fetch q_k70 39 = fun _ _ => none := rfl
theorem t70_39 (C : xF) (s n : Nat) (z : xS) : x_to q_k70 C s (n + 1) 39 z = x_nx q_k70 C s n ((fun _ _ => none) C z) := x_to_at f70_39 C s n z
theorem f70_40 : x_fetch q_k70 40 = x_lda 41 0 := rfl
theorem t70_40 (C : xF) (s n : Nat) (z : xS) : x_to q_k70 C s (n + 1) 40 z = x_nx q_k70 C s n ((x_lda 41 0) C z) := x_to_at f70_40 C s n z
theorem f70_41 : x_fetch q_k70 41 = x_gf 44 0 9 := rfl
theorem t70_41 (C : xF) (s n : Nat) (z : xS) : x_to q_k70 C s (n + 1) 41 z = x_nx q_k70 C s n ((x_gf 44 0 9) C z) := x_to_at f70_41 C s n z
theorem f70_44 : x_fetch q_k70 44 = x_st (x_push 46 (.int (-4))) := rfl
theorem t70_44 (C : xF) (s n : Nat) (z : xS) : x_to q_k70 C s (n + 1) 44 z = x_nx q_k70 C s n ((x_st (x_push 46 (.int (-4)))) C z) := x_to_at f70_44 C s n z
theorem f70_46 : x_fetch q_k70 46 = x_st (x_icne 59 49) := rfl
theorem t70_46 (C : xF) (s n : Nat) (z : xS) : x_to q_k70 C s (n + 1) 46 z = x_nx q_k70 C s n ((x_st (x_icne 59 49)) C z) := x_to_at f70_46 C s n z
theorem f70_49 : x_fetch q_k70 49 = x_thr 11 := rfl
theorem t70_49 (C : xF) (s n : Nat) (z : xS) : x_to q_k70 C s (n + 1) 49 z = x_nx q_k70 C s n ((x_thr 11) C z) := x_to_at f70_49 C s n z
theorem f70_52 : x_fetch q_k70 52 = x_st (x_dup 53) := rfl
theorem t70_52 (C : xF) (s n : Nat) (z : xS) : x_to q_k70 C s (n + 1) 52 z = x_nx q_k70 C s n ((x_st (x_dup 53)) C z) := x_to_at f70_52 C s n z
theorem f70_53 : x_fetch q_k70 53 = fun _ _ => none := rfl
theorem t70_53 (C : xF) (s n : Nat) (z : xS) : x_to q_k70 C s (n + 1) 53 z = x_nx q_k70 C s n ((fun _ _ => none) C z) := x_to_at f70_53 C s n z
theorem f70_55 : x_fetch q_k70 55 = fun _ _ => none := rfl
theorem t70_55 (C : xF) (s n : Nat) (z : xS) : x_to q_k70 C s (n + 1) 55 z = x_nx q_k70 C s n ((fun _ _ => none) C z) := x_to_at f70_55 C s n z
theorem f70_58 : x_fetch q_k70 58 = fun _ _ => none := rfl
theorem t70_58 (C : xF) (s n : Nat) (z : xS) : x_to q_k70 C s (n + 1) 58 z = x_nx q_k70 C s n ((fun _ _ => none) C z) := x_to_at f70_58 C s n z
theorem f70_59 : x_fetch q_k70 59 = x_lda 60 0 := rfl
theorem t70_59 (C : xF) (s n : Nat) (z : xS) : x_to q_k70 C s (n + 1) 59 z = x_nx q_k70 C s n ((x_lda 60 0) C z) := x_to_at f70_59 C s n z
theorem f70_60 : x_fetch q_k70 60 = x_gf 63 0 9 := rfl
theorem t70_60 (C : xF) (s n : Nat) (z : xS) : x_to q_k70 C s (n + 1) 60 z = x_nx q_k70 C s n ((x_gf 63 0 9) C z) := x_to_at f70_60 C s n z
theorem f70_63 : x_fetch q_k70 63 = x_st (x_push 64 (.int (-1))) := rfl
theorem t70_63 (C : xF) (s n : Nat) (z : xS) : x_to q_k70 C s (n + 1) 63 z = x_nx q_k70 C s n ((x_st (x_push 64 (.int (-1)))) C z) := x_to_at f70_63 C s n z
theorem f70_64 : x_fetch q_k70 64 = x_st (x_iceq 76 67) := rfl
theorem t70_64 (C : xF) (s n : Nat) (z : xS) : x_to q_k70 C s (n + 1) 64 z = x_nx q_k70 C s n ((x_st (x_iceq 76 67)) C z) := x_to_at f70_64 C s n z
theorem f70_67 : x_fetch q_k70 67 = x_lda 68 0 := rfl
theorem t70_67 (C : xF) (s n : Nat) (z : xS) : x_to q_k70 C s (n + 1) 67 z = x_nx q_k70 C s n ((x_lda 68 0) C z) := x_to_at f70_67 C s n z
theorem f70_68 : x_fetch q_k70 68 = x_gf 71 0 9 := rfl
theorem t70_68 (C : xF) (s n : Nat) (z : xS) : x_to q_k70 C s (n + 1) 68 z = x_nx q_k70 C s n ((x_gf 71 0 9) C z) := x_to_at f70_68 C s n z
theorem f70_71 : x_fetch q_k70 71 = x_st (x_push 73 (.int (-2))) := rfl
theorem t70_71 (C : xF) (s n : Nat) (z : xS) : x_to q_k70 C s (n + 1) 71 z = x_nx q_k70 C s n ((x_st (x_push 73 (.int (-2)))) C z) := x_to_at f70_71 C s n z
theorem f70_73 : x_fetch q_k70 73 = x_st (x_icne 86 76) := rfl
theorem t70_73 (C : xF) (s n : Nat) (z : xS) : x_to q_k70 C s (n + 1) 73 z = x_nx q_k70 C s n ((x_st (x_icne 86 76)) C z) := x_to_at f70_73 C s n z
theorem f70_76 : x_fetch q_k70 76 = x_thr 9 := rfl
theorem t70_76 (C : xF) (s n : Nat) (z : xS) : x_to q_k70 C s (n + 1) 76 z = x_nx q_k70 C s n ((x_thr 9) C z) := x_to_at f70_76 C s n z
theorem f70_79 : x_fetch q_k70 79 = x_st (x_dup 80) := rfl
theorem t70_79 (C : xF) (s n : Nat) (z : xS) : x_to q_k70 C s (n + 1) 79 z = x_nx q_k70 C s n ((x_st (x_dup 80)) C z) := x_to_at f70_79 C s n z
theorem f70_80 : x_fetch q_k70 80 = fun _ _ => none := rfl
theorem t70_80 (C : xF) (s n : Nat) (z : xS) : x_to q_k70 C s (n + 1) 80 z = x_nx q_k70 C s n ((fun _ _ => none) C z) := x_to_at f70_80 C s n z
theorem f70_82 : x_fetch q_k70 82 = fun _ _ => none := rfl
theorem t70_82 (C : xF) (s n : Nat) (z : xS) : x_to q_k70 C s (n + 1) 82 z = x_nx q_k70 C s n ((fun _ _ => none) C z) := x_to_at f70_82 C s n z
theorem f70_85 : x_fetch q_k70 85 = fun _ _ => none := rfl
theorem t70_85 (C : xF) (s n : Nat) (z : xS) : x_to q_k70 C s (n + 1) 85 z = x_nx q_k70 C s n ((fun _ _ => none) C z) := x_to_at f70_85 C s n z
theorem f70_86 : x_fetch q_k70 86 = x_lda 87 0 := rfl
theorem t70_86 (C : xF) (s n : Nat) (z : xS) : x_to q_k70 C s (n + 1) 86 z = x_nx q_k70 C s n ((x_lda 87 0) C z) := x_to_at f70_86 C s n z
theorem f70_87 : x_fetch q_k70 87 = x_gf 90 0 9 := rfl
theorem t70_87 (C : xF) (s n : Nat) (z : xS) : x_to q_k70 C s (n + 1) 87 z = x_nx q_k70 C s n ((x_gf 90 0 9) C z) := x_to_at f70_87 C s n z
theorem f70_90 : x_fetch q_k70 90 = x_st (x_ifeq 103 93) := rfl
theorem t70_90 (C : xF) (s n : Nat) (z : xS) : x_to q_k70 C s (n + 1) 90 z = x_nx q_k70 C s n ((x_st (x_ifeq 103 93)) C z) := x_to_at f70_90 C s n z
theorem f70_93 : x_fetch q_k70 93 = x_thr 12 := rfl
theorem t70_93 (C : xF) (s n : Nat) (z : xS) : x_to q_k70 C s (n + 1) 93 z = x_nx q_k70 C s n ((x_thr 12) C z) := x_to_at f70_93 C s n z
theorem f70_96 : x_fetch q_k70 96 = x_st (x_dup 97) := rfl
theorem t70_96 (C : xF) (s n : Nat) (z : xS) : x_to q_k70 C s (n + 1) 96 z = x_nx q_k70 C s n ((x_st (x_dup 97)) C z) := x_to_at f70_96 C s n z
theorem f70_97 : x_fetch q_k70 97 = fun _ _ => none := rfl
theorem t70_97 (C : xF) (s n : Nat) (z : xS) : x_to q_k70 C s (n + 1) 97 z = x_nx q_k70 C s n ((fun _ _ => none) C z) := x_to_at f70_97 C s n z
theorem f70_99 : x_fetch q_k70 99 = fun _ _ => none := rfl
theorem t70_99 (C : xF) (s n : Nat) (z : xS) : x_to q_k70 C s (n + 1) 99 z = x_nx q_k70 C s n ((fun _ _ => none) C z) := x_to_at f70_99 C s n z
theorem f70_102 : x_fetch q_k70 102 = fun _ _ => none := rfl
theorem t70_102 (C : xF) (s n : Nat) (z : xS) : x_to q_k70 C s (n + 1) 102 z = x_nx q_k70 C s n ((fun _ _ => none) C z) := x_to_at f70_102 C s n z
theorem f70_103 : x_fetch q_k70 103 = x_lda 104 0 := rfl
theorem t70_103 (C : xF) (s n : Nat) (z : xS) : x_to q_k70 C s (n + 1) 103 z = x_nx q_k70 C s n ((x_lda 104 0) C z) := x_to_at f70_103 C s n z
theorem f70_104 : x_fetch q_k70 104 = x_gf 107 0 2 := rfl
theorem t70_104 (C : xF) (s n : Nat) (z : xS) : x_to q_k70 C s (n + 1) 104 z = x_nx q_k70 C s n ((x_gf 107 0 2) C z) := x_to_at f70_104 C s n z
theorem f70_107 : x_fetch q_k70 107 = x_st (x_push 108 (.int (1))) := rfl
theorem t70_107 (C : xF) (s n : Nat) (z : xS) : x_to q_k70 C s (n + 1) 107 z = x_nx q_k70 C s n ((x_st (x_push 108 (.int (1)))) C z) := x_to_at f70_107 C s n z
theorem f70_108 : x_fetch q_k70 108 = x_st (x_bin 109 (fun a b => a - b)) := rfl
theorem t70_108 (C : xF) (s n : Nat) (z : xS) : x_to q_k70 C s (n + 1) 108 z = x_nx q_k70 C s n ((x_st (x_bin 109 (fun a b => a - b))) C z) := x_to_at f70_108 C s n z
theorem f70_109 : x_fetch q_k70 109 = x_ri (.int) := rfl
theorem t70_109 (C : xF) (s n : Nat) (z : xS) : x_to q_k70 C s (n + 1) 109 z = x_nx q_k70 C s n ((x_ri (.int)) C z) := x_to_at f70_109 C s n z
section GST
variable {w : Nat → xC} {N : Nat} {Ds : List (List (Int × List Int) × Bool × Int × Int)} {T U : List Int} {clm cf lf : Int}
theorem CS.le {w' : Nat → xC} {N' : Nat} {Ds' : List (List (Int × List Int) × Bool × Int × Int)} {T' U' : List Int} {clm' cf' lf' : Int} (h : CS w N Ds T U clm cf lf) (g : CS w' N' Ds' T' U' clm' cf' lf') (hN : N ≤ N') (f : ∀ j, 27 ≤ j → j < N → w' j = w j) : x_le (hp w N) (hp w' N') := by
  obtain ⟨a0, _, ⟨p, Tx, a1, a2, a3⟩, ⟨Rf, r1, r2, _⟩, a4, a5, a6, ⟨V, v1, v2⟩, a9, a10, a11, _, _⟩ := h
  obtain ⟨b0, _, ⟨p', Tx', b1, b2, b3⟩, ⟨Rf', s1, s2, _⟩, b4, b5, b6, ⟨V', u1, u2⟩, b9, b10, b11, _, _⟩ := g
  refine hp_le hN (fun j hj => ?_)
  by_cases hj27 : 27 ≤ j
  · rw [f j hj27 hj]
    exact Nat.le_refl _
  · by_cases h24 : 24 ≤ j
    · obtain ⟨mn, Tm, Bn, q1, q2, q3, q4, q5⟩ := a11
      obtain ⟨mn', Tm', Bn', k1, k2, k3, k4, k5⟩ := b11
      have hj' : j = 24 ∨ j = 25 ∨ j = 26 := by omega
      rcases hj' with rfl | rfl | rfl
      · rw [q1, k1]; simp [x_c1]
      · rw [q2, k2]; simp [x_c1, q3, k3]
      · rw [q4, k4]; simp [x_c1, q5, k5]
    · by_cases h11 : 11 ≤ j
      · obtain ⟨⟨q1, q2, q3, q4, q5, q6, c0⟩, ⟨S, E, B, c, ln, o, ⟨c1_, c2_, c3_, c4_⟩, c5_, c6_, c7_⟩, ⟨l, wt, Sy, Ee, Ro, Fs, Fi, Os, Ot, g1, g2, g3, g4, g5, g6, g7, g8, g9, g10, g11, g12, g13, g14, g15, g16, g17⟩⟩ := a10
        obtain ⟨⟨p1, p2, p3, p4, p5, p6, d0⟩, ⟨S', E', B', c', ln', o', ⟨d1, d2, d3, d4⟩, d5, d6, d7⟩, ⟨l', wt', Sy', Ee', Ro', Fs', Fi', Os', Ot', k1, k2, k3, k4, k5, k6, k7, k8, k9, k10, k11, k12, k13, k14, k15, k16, k17⟩⟩ := b10
        have c2' : w 13 = cI 0 S := c2_
        have c3' : w 14 = cI 0 E := c3_
        have c4' : w 15 = cI 1 B := c4_
        have d2' : w' 13 = cI 0 S' := d2
        have d3' : w' 14 = cI 0 E' := d3
        have d4' : w' 15 = cI 1 B' := d4
        have hj' : j = 11 ∨ j = 12 ∨ j = 13 ∨ j = 14 ∨ j = 15 ∨ j = 16 ∨ j = 17 ∨ j = 18 ∨ j = 19 ∨ j = 20 ∨ j = 21 ∨ j = 22 ∨ j = 23 := by omega
        rcases hj' with rfl | rfl | rfl | rfl | rfl | rfl | rfl | rfl | rfl | rfl | rfl | rfl | rfl
        · rw [c0, d0]; simp [x_c1]
        · rw [c1_, d1]; simp [x_c1]
        · rw [c2', d2']; simp [x_c1, c5_, d5]
        · rw [c3', d3']; simp [x_c1, c6_, d6]
        · rw [c4', d4']; simp [x_c1, c7_, d7]
        · rw [g1, k1]; simp [x_c1, gF]
        · rw [g2, k2]; simp [x_c1, g3, k3]
        · rw [g4, k4]; simp [x_c1, g5, k5]
        · rw [g6, k6]; simp [x_c1, g7, k7]
        · rw [g9, k9]; simp [x_c1, g10, k10]
        · rw [g11, k11]; simp [x_c1, g12, k12]
        · rw [g14, k14]; simp [x_c1, g15, k15]
        · rw [g16, k16]; simp [x_c1, g17, k17]
      · obtain ⟨S, E, B, c, o, u, ⟨e1, e2, e3, e4⟩, e5, e6, e7, _⟩ := a9
        obtain ⟨S', E', B', c', o', u', ⟨f1, f2, f3, f4⟩, f5, f6, f7, _⟩ := b9
        have e2' : w 8 = cI 0 S := e2
        have e3' : w 9 = cI 0 E := e3
        have e4' : w 10 = cI 1 B := e4
        have f2' : w' 8 = cI 0 S' := f2
        have f3' : w' 9 = cI 0 E' := f3
        have f4' : w' 10 = cI 1 B' := f4
        have hj' : j = 0 ∨ j = 1 ∨ j = 2 ∨ j = 3 ∨ j = 4 ∨ j = 5 ∨ j = 6 ∨ j = 7 ∨ j = 8 ∨ j = 9 ∨ j = 10 := by omega
        rcases hj' with rfl | rfl | rfl | rfl | rfl | rfl | rfl | rfl | rfl | rfl | rfl
        · rw [a0, b0]; simp [x_c1]
        · rw [a1, b1]; simp [x_c1]
        · rw [a2, b2]; simp [x_c1, a3.1, b3.1]
        · rw [r1, s1]; simp [x_c1, r2, s2]
        · rw [a4, b4]; exact Nat.le_refl _
        · rw [a5, b5]; simp [x_c1, a6.1, b6.1]
        · rw [v1, u1]; simp [x_c1, v2, u2]
        · rw [e1, f1]; simp [x_c1]
        · rw [e2', f2']; simp [x_c1, e5, f5]
        · rw [e3', f3']; simp [x_c1, e6, f6]
        · rw [e4', f4']; simp [x_c1, e7, f7]
theorem CS.set0 (h : CS w N Ds T U clm cf lf) (lf2 : Int) : CS (uH w 0 (dk Ds.length clm cf lf2)) N Ds T U clm cf lf2 := by
  obtain ⟨z0, z30, ⟨p, Tx, z1, z2, z3⟩, ⟨Rf, r1, r2, r3⟩, z4, z5, z6, ⟨V, v1, v2⟩, z9, z10, z11, z12, z13⟩ := h
  have f : ∀ j, 1 ≤ j → uH w 0 (dk Ds.length clm cf lf2) j = w j := fun j hj => uH_ne (by omega)
  exact ⟨uH_at _ _ _, z30, ⟨p, Tx, (f 1 (by omega)).trans z1, (f 2 (by omega)).trans z2, z3⟩, ⟨Rf, (f 3 (by omega)).trans r1, r2, fun i hi => by
    obtain ⟨n, n1, n2⟩ := r3 i hi
    exact ⟨n, n1, n2.mv (Nat.le_refl _) (fun j j0 _ => f j (by omega))⟩⟩, (f 4 (by omega)).trans z4, (f 5 (by omega)).trans z5, z6, ⟨V, (f 6 (by omega)).trans v1, v2⟩, z9.mv (fun j j0 j1 => f j (by omega)), z10.mv (fun j j0 j1 => f j (by omega)), z11.mv (fun j j0 j1 => f j (by omega)), z12, fun j j0 j1 => by rw [f j (by omega)]; exact z13 j j0 j1⟩
theorem CS.grow (h : CS w N Ds T U clm cf lf) {c : xC} (hc : x_c1 c ≤ 400) : CS (uH w N c) (N + 1) Ds T U clm cf lf := by
  obtain ⟨z0, z30, ⟨p, Tx, z1, z2, z3⟩, ⟨Rf, r1, r2, r3⟩, z4, z5, z6, ⟨V, v1, v2⟩, z9, z10, z11, z12, z13⟩ := h
  have f : ∀ j, j < N → uH w N c j = w j := fun j hj => uH_ne (by omega)
  exact ⟨(f 0 (by omega)).trans z0, z30, ⟨p, Tx, (f 1 (by omega)).trans z1, (f 2 (by omega)).trans z2, z3⟩, ⟨Rf, (f 3 (by omega)).trans r1, r2, fun i hi => by
    obtain ⟨n, n1, n2⟩ := r3 i hi
    exact ⟨n, n1, n2.mv (by omega) (fun j j0 j1 => f j j1)⟩⟩, (f 4 (by omega)).trans z4, (f 5 (by omega)).trans z5, z6, ⟨V, (f 6 (by omega)).trans v1, v2⟩, z9.mv (fun j j0 j1 => f j (by omega)), z10.mv (fun j j0 j1 => f j (by omega)), z11.mv (fun j j0 j1 => f j (by omega)), by omega, fun j j0 j1 => by
    by_cases e : j = N
    · rw [e, uH_at]; exact hc
    · rw [uH_ne e]; exact z13 j j0 (by omega)⟩
abbrev exO (ci : Nat) : xC := .inr (ci, [.null, .null, .null, .null, .null, .null])
theorem exO_sz (ci : Nat) : x_c1 (exO ci) ≤ 400 := by simp [x_c1]
def GVc (Ds : List (List (Int × List Int) × Bool × Int × Int)) (T U : List Int) (out : Option Value) (lf' : Int) (Ds' : List (List (Int × List Int) × Bool × Int × Int)) (U' : List Int) : Prop := match rdQ T with
  | none => out = some (.retAddr 9) ∧ lf' = -1 ∧ Ds' = Ds ∧ U' = U
  | some l => if (ntC l (U, false)).2 = true then out = some (.retAddr 9) ∧ lf' = -2 ∧ Ds' = Ds ∧ U' = U else if Ds.length = 30 then out = some (.retAddr 10) ∧ lf' = -3 ∧ Ds' = Ds ∧ U' = U else out = some (.int (iZ (Ds.length : Int))) ∧ lf' = 0 ∧ Ds' = Ds ++ [(rnD (uqs [] l), true, 0, ((2 ^ Ds.length : Nat) : Int))] ∧ U' = (ntC l (U, false)).1
def OutX (w : Nat → xC) (N : Nat) (out : Option Value) : Prop := ∀ t, out = some (.retAddr t) → w (N - 1) = exO t ∧ 53 < N
set_option maxHeartbeats 1000000 in
theorem m69 (d : Nat) (h : CS w N Ds T U clm cf lf) :
    ∃ (w' : Nat → xC) (N' : Nat) (out : Option Value) (Ds' : List (List (Int × List Int) × Bool × Int × Int)) (U' : List Int) (clm' cf' lf' : Int), N ≤ N' ∧ N' ≤ N + 1 + 206 * (Ds'.length - Ds.length) ∧ CS w' N' Ds' [] U' clm' cf' lf' ∧ (∀ j, 27 ≤ j → j < N → w' j = w j) ∧ GVc Ds T U out lf' Ds' U' ∧ OutX w' N' out ∧ Xc (d + 56) 69 [.ref 3] (hp w N) (out, hp w' N') := by
  obtain ⟨w1, cm, cf', a1, a2, a3, a4⟩ := m82 (d + 19) h
  have c01 := a2.1
  have c0 := h.1
  have hN := h.2.2.2.2.2.2.2.2.2.2.2.1
  have c30 := h.2.1
  have uk := h.2.2.2.2.2.2.1
  obtain ⟨cnt, hcnt⟩ : ∃ cnt : Int, cnt = (Ds.length : Int) := ⟨_, rfl⟩
  have cnt0 : 0 ≤ cnt := by omega
  have cnt9 : cnt ≤ 30 := by omega
  -- a call that throws
  have thr : ∀ (t : Nat) (f : Int), (t = 9 ∧ ((cf' = f ∧ f = -1) ∨ (cf' = f ∧ f = -2))) ∨ (t = 10 ∧ cf' = 0 ∧ f = -3 ∧ Ds.length = 30) → GVc Ds T U (some (.retAddr t)) f Ds U → ∃ (w' : Nat → xC) (N' : Nat) (out : Option Value) (Ds' : List (List (Int × List Int) × Bool × Int × Int)) (U' : List Int) (clm' cf' lf' : Int), N ≤ N' ∧ N' ≤ N + 1 + 206 * (Ds'.length - Ds.length) ∧ CS w' N' Ds' [] U' clm' cf' lf' ∧ (∀ j, 27 ≤ j → j < N → w' j = w j) ∧ GVc Ds T U out lf' Ds' U' ∧ OutX w' N' out ∧ Xc (d + 56) 69 [.ref 3] (hp w N) (out, hp w' N') := fun t f hcs hG => by
    have CS2 := (a2.set0 f).grow (exO_sz t)
    have fr : ∀ j, 27 ≤ j → j < N → uH (uH w1 0 (dk Ds.length cm cf' f)) N (exO t) j = w j := fun j j0 j1 => by rw [uH_ne (by omega), uH_ne (by omega)]; exact a1 j (by omega)
    refine ⟨_, N + 1, some (.retAddr t), Ds, U, cm, cf', f, by omega, by omega, CS2, fr, hG, fun t' e => ?_, ?_⟩
    · injection e with e
      injection e with e
      rw [← e]
      exact ⟨uH_at _ _ _, by omega⟩
    · have hle := h.le CS2 (by omega) fr
      refine Xc.of rfl (by simp [lg_sl, Value.category]) ?_ (hle)
      have hc : c1 (lv_args 0 [.ref 3]) := by simp [c1, lv_args, Value.category]
      have l0 : x_lk (lv_args 0 [.ref 3]) 0 = some (.ref 3) := rfl
      generalize lv_args 0 [.ref 3] = lv at hc l0
      refine Gx.fin 60 a4 (fun X mm => ?_)
      rw [← hcnt] at c0 c01 ⊢
      rcases hcs with ⟨rfl, ⟨e1, e2⟩ | ⟨e1, e2⟩⟩ | ⟨rfl, e1, e2, e3⟩
      · rw [e1, e2] at c01
        rw [e1, e2]
        simp (disch := first | (refine c1_id ?_; assumption) | (refine c1_st rfl ?_; repeat (first | assumption | refine c1_st rfl ?_)) | omega) [nx_l, nx_r, nx_n, x_st, x_push, x_bin, x_div, x_un, x_dup, x_pop, x_dup2, x_goto, x_ifeq, x_ifne, x_iflt, x_ifge, x_ifgt, x_ifle, x_iceq, x_icne, x_iclt, x_icge, x_icgt, x_icle, x_ifnull, x_ifnonnull, x_ldi, x_lda, x_sti, x_sta, x_iinc, x_gf, x_pf, x_ald, x_ast, x_aln, x_len, x_cl_, x_cv, x_cs, x_rc, x_r0, x_isT, x_oi, x_rv, x_ri, x_ra, Value.category, t69_0, t69_1, t69_4, t69_5, t69_6, t69_9, t69_12, t69_13, t69_16, t69_18, t69_21, t69_23, t69_26, t69_27, t69_30, t69_33, t69_34, t69_37, t69_39, t69_42, t69_45, t69_46, t69_48, t69_51, t69_52, t69_53, t69_56, t69_59, t69_62, t69_63, t69_65, t69_68, t69_69, t69_70, t69_71, t69_74, t69_75, t69_76, t69_77, t69_80, t69_81, t69_84, t69_85, t69_88, t69_89, t69_90, lk_s, hp_get, hp_set, uH_at, uH_ne, uH_upd, uH_swap, iZ_add, iZ_sub, iZ_mul, iZ_neg, iZ_lt, iZ_le, iZ_eq, iZ_div, iZ_of, ix_Z, gZ_map, gZ_mapI, gZ_map', le_0, le_s, sZ_map, sZ_len, bZ_0, bZ_inj, bZ_t, bZ_f, nr_i, nr_0, nr_1, nr_b, ft_i, ft_b, ft_0, ft_1, zl_0, zl_1, zl_3, zl_30, l0, c0, c01, mm, x_thr, hp_push, hp_len, dk, exO, -List.filter_filter, -List.getElem?_map, -List.getD_eq_getElem?_getD]
      · rw [e1, e2] at c01
        rw [e1, e2]
        simp (disch := first | (refine c1_id ?_; assumption) | (refine c1_st rfl ?_; repeat (first | assumption | refine c1_st rfl ?_)) | omega) [nx_l, nx_r, nx_n, x_st, x_push, x_bin, x_div, x_un, x_dup, x_pop, x_dup2, x_goto, x_ifeq, x_ifne, x_iflt, x_ifge, x_ifgt, x_ifle, x_iceq, x_icne, x_iclt, x_icge, x_icgt, x_icle, x_ifnull, x_ifnonnull, x_ldi, x_lda, x_sti, x_sta, x_iinc, x_gf, x_pf, x_ald, x_ast, x_aln, x_len, x_cl_, x_cv, x_cs, x_rc, x_r0, x_isT, x_oi, x_rv, x_ri, x_ra, Value.category, t69_0, t69_1, t69_4, t69_5, t69_6, t69_9, t69_12, t69_13, t69_16, t69_18, t69_21, t69_23, t69_26, t69_27, t69_30, t69_33, t69_34, t69_37, t69_39, t69_42, t69_45, t69_46, t69_48, t69_51, t69_52, t69_53, t69_56, t69_59, t69_62, t69_63, t69_65, t69_68, t69_69, t69_70, t69_71, t69_74, t69_75, t69_76, t69_77, t69_80, t69_81, t69_84, t69_85, t69_88, t69_89, t69_90, lk_s, hp_get, hp_set, uH_at, uH_ne, uH_upd, uH_swap, iZ_add, iZ_sub, iZ_mul, iZ_neg, iZ_lt, iZ_le, iZ_eq, iZ_div, iZ_of, ix_Z, gZ_map, gZ_mapI, gZ_map', le_0, le_s, sZ_map, sZ_len, bZ_0, bZ_inj, bZ_t, bZ_f, nr_i, nr_0, nr_1, nr_b, ft_i, ft_b, ft_0, ft_1, zl_0, zl_1, zl_3, zl_30, l0, c0, c01, mm, x_thr, hp_push, hp_len, dk, exO, -List.filter_filter, -List.getElem?_map, -List.getD_eq_getElem?_getD]
      · have e4 : cnt = 30 := by omega
        rw [e1] at c01
        rw [e1, e2]
        have b1 : ¬ cnt < 30 := by omega
        simp (disch := first | (refine c1_id ?_; assumption) | (refine c1_st rfl ?_; repeat (first | assumption | refine c1_st rfl ?_)) | omega) [nx_l, nx_r, nx_n, x_st, x_push, x_bin, x_div, x_un, x_dup, x_pop, x_dup2, x_goto, x_ifeq, x_ifne, x_iflt, x_ifge, x_ifgt, x_ifle, x_iceq, x_icne, x_iclt, x_icge, x_icgt, x_icle, x_ifnull, x_ifnonnull, x_ldi, x_lda, x_sti, x_sta, x_iinc, x_gf, x_pf, x_ald, x_ast, x_aln, x_len, x_cl_, x_cv, x_cs, x_rc, x_r0, x_isT, x_oi, x_rv, x_ri, x_ra, Value.category, t69_0, t69_1, t69_4, t69_5, t69_6, t69_9, t69_12, t69_13, t69_16, t69_18, t69_21, t69_23, t69_26, t69_27, t69_30, t69_33, t69_34, t69_37, t69_39, t69_42, t69_45, t69_46, t69_48, t69_51, t69_52, t69_53, t69_56, t69_59, t69_62, t69_63, t69_65, t69_68, t69_69, t69_70, t69_71, t69_74, t69_75, t69_76, t69_77, t69_80, t69_81, t69_84, t69_85, t69_88, t69_89, t69_90, lk_s, hp_get, hp_set, uH_at, uH_ne, uH_upd, uH_swap, iZ_add, iZ_sub, iZ_mul, iZ_neg, iZ_lt, iZ_le, iZ_eq, iZ_div, iZ_of, ix_Z, gZ_map, gZ_mapI, gZ_map', le_0, le_s, sZ_map, sZ_len, bZ_0, bZ_inj, bZ_t, bZ_f, nr_i, nr_0, nr_1, nr_b, ft_i, ft_b, ft_0, ft_1, zl_0, zl_1, zl_3, zl_30, l0, c0, c01, mm, b1, x_thr, hp_push, hp_len, dk, exO, -List.filter_filter, -List.getElem?_map, -List.getD_eq_getElem?_getD]
  obtain ⟨_, hcf⟩ := a3
  cases hrd : rdQ T with
  | none =>
    rw [hrd] at hcf
    exact thr 9 (-1) (Or.inl ⟨rfl, Or.inl ⟨hcf, rfl⟩⟩) (by unfold GVc; rw [hrd]; exact ⟨rfl, rfl, rfl, rfl⟩)
  | some l =>
    rw [hrd] at hcf
    dsimp only at hcf
    by_cases hfl : (ntC l (U, false)).2 = true
    · rw [if_pos hfl] at hcf
      refine thr 9 (-2) (Or.inl ⟨rfl, Or.inr ⟨hcf, rfl⟩⟩) ?_
      unfold GVc
      rw [hrd]
      dsimp only
      rw [if_pos hfl]
      exact ⟨rfl, rfl, rfl, rfl⟩
    · rw [if_neg hfl] at hcf
      obtain ⟨cf0, hLC⟩ := hcf
      have hfl' : (ntC l (U, false)).2 = false := by simpa using hfl
      by_cases hf30 : Ds.length = 30
      · refine thr 10 (-3) (Or.inr ⟨rfl, cf0, rfl, hf30⟩) ?_
        unfold GVc
        rw [hrd]
        dsimp only
        rw [if_neg hfl, if_pos hf30]
        exact ⟨rfl, rfl, rfl, rfl⟩
      · have CS2 := a2.set0 0
        obtain ⟨w2, hw2⟩ : ∃ w2, w2 = uH w1 0 (dk Ds.length cm cf' 0) := ⟨_, rfl⟩
        rw [← hw2] at CS2
        have gq := rdQ_ok hrd
        have lw := read_LW hrd uk.1 hfl'
        have n9 : no9 (rnD (uqs [] l)) := fun y hy => (lw y hy).n9
        have e1 : ntC (rnD (uqs [] l)) (U, false) = ntC (uqs [] l) (U, false) := ntC_rnD gq.2.1 _
        have sm := nt_uqs uk.1 l [] (fun y hy => by cases hy) (rdQ_lt hrd)
        have ef : (ntC (uqs [] l) (U, false)).2 = (ntC l (U, false)).2 := sm.1
        have er : (ntC (uqs [] l) (U, false)).1 = (ntC l (U, false)).1 := sm.2 (by rw [ef]; exact hfl')
        obtain ⟨w3, N3, z1, z2, z3, z4, X88⟩ := m88 (a := 7) (d + 6) CS2 (by omega) (hLC.mv (fun j j0 j1 => by rw [hw2, uH_ne (by omega)])) (by decide) (by decide) gq.2.2 n9 (by rw [e1, ef]; exact hfl') true 0 ((2 ^ Ds.length : Nat) : Int)
        rw [e1, er] at z3
        have fr : ∀ j, 27 ≤ j → j < N → w3 j = w j := fun j j0 j1 => by rw [z4 j (by omega) j1, hw2, uH_ne (by omega)]; exact a1 j (by omega)
        refine ⟨w3, N3, some (.int (iZ (Ds.length : Int))), _, _, cm, cf', 0, z1, by simp; omega, z3, fr, ?_, fun t e => (by cases e), ?_⟩
        · unfold GVc
          rw [hrd]
          dsimp only
          rw [if_neg hfl, if_neg hf30]
          exact ⟨rfl, rfl, rfl, rfl⟩
        · have hle := h.le z3 z1 fr
          have c03 := z3.1
          rw [List.length_append, List.length_singleton, show ((Ds.length + 1 : Nat) : Int) = (Ds.length : Int) + 1 by omega] at c03
          have hsh := pw_Z ⟨Ds.length, by omega⟩
          have hsh : iZ 1 <<< (iZ (Ds.length : Int) &&& 31) = iZ ((2 ^ Ds.length : Nat) : Int) := hsh
          generalize ((2 ^ Ds.length : Nat) : Int) = pw at hsh X88
          rw [← hcnt] at hsh c0 c01 c03 hw2 ⊢
          have e2 : cnt + 1 - 1 = cnt := by omega
          have b1 : cnt < 30 := by omega
          rw [cf0] at c01 hw2
          have c02 : w2 0 = dk cnt cm 0 0 := by rw [hw2, uH_at]
          have X88 : Xc (d + 55) 88 [.ref 3, .ref 10, .int (iZ 0), .int (iZ pw)] (hp w2 N) (none, hp w3 N3) := X88
          refine Xc.of rfl (by simp [lg_sl, Value.category]) ?_ (hle)
          have hc : c1 (lv_args 0 [.ref 3]) := by simp [c1, lv_args, Value.category]
          have l0 : x_lk (lv_args 0 [.ref 3]) 0 = some (.ref 3) := rfl
          generalize lv_args 0 [.ref 3] = lv at hc l0
          refine Gx.run 60 (pc' := 69) (z' := (lv, [], hp w2 N)) a4 (fun X mm => ?_) (Gx.fin 60 X88 (fun X mm => ?_))
          · rw [hw2]
            simp (disch := first | (refine c1_id ?_; assumption) | (refine c1_st rfl ?_; repeat (first | assumption | refine c1_st rfl ?_)) | omega) [nx_l, nx_r, nx_n, x_st, x_push, x_bin, x_div, x_un, x_dup, x_pop, x_dup2, x_goto, x_ifeq, x_ifne, x_iflt, x_ifge, x_ifgt, x_ifle, x_iceq, x_icne, x_iclt, x_icge, x_icgt, x_icle, x_ifnull, x_ifnonnull, x_ldi, x_lda, x_sti, x_sta, x_iinc, x_gf, x_pf, x_ald, x_ast, x_aln, x_len, x_cl_, x_cv, x_cs, x_rc, x_r0, x_isT, x_oi, x_rv, x_ri, x_ra, Value.category, t69_0, t69_1, t69_4, t69_5, t69_6, t69_9, t69_12, t69_13, t69_16, t69_18, t69_21, t69_23, t69_26, t69_27, t69_30, t69_33, t69_34, t69_37, t69_39, t69_42, t69_45, t69_46, t69_48, t69_51, t69_52, t69_53, t69_56, t69_59, t69_62, t69_63, t69_65, t69_68, t69_69, t69_70, t69_71, t69_74, t69_75, t69_76, t69_77, t69_80, t69_81, t69_84, t69_85, t69_88, t69_89, t69_90, lk_s, hp_get, hp_set, uH_at, uH_ne, uH_upd, uH_swap, iZ_add, iZ_sub, iZ_mul, iZ_neg, iZ_lt, iZ_le, iZ_eq, iZ_div, iZ_of, ix_Z, gZ_map, gZ_mapI, gZ_map', le_0, le_s, sZ_map, sZ_len, bZ_0, bZ_inj, bZ_t, bZ_f, nr_i, nr_0, nr_1, nr_b, ft_i, ft_b, ft_0, ft_1, zl_0, zl_1, zl_3, zl_30, l0, c0, c01, mm, b1, dk, -List.filter_filter, -List.getElem?_map, -List.getD_eq_getElem?_getD]
          · simp (disch := first | (refine c1_id ?_; assumption) | (refine c1_st rfl ?_; repeat (first | assumption | refine c1_st rfl ?_)) | omega) [nx_l, nx_r, nx_n, x_st, x_push, x_bin, x_div, x_un, x_dup, x_pop, x_dup2, x_goto, x_ifeq, x_ifne, x_iflt, x_ifge, x_ifgt, x_ifle, x_iceq, x_icne, x_iclt, x_icge, x_icgt, x_icle, x_ifnull, x_ifnonnull, x_ldi, x_lda, x_sti, x_sta, x_iinc, x_gf, x_pf, x_ald, x_ast, x_aln, x_len, x_cl_, x_cv, x_cs, x_rc, x_r0, x_isT, x_oi, x_rv, x_ri, x_ra, Value.category, t69_0, t69_1, t69_4, t69_5, t69_6, t69_9, t69_12, t69_13, t69_16, t69_18, t69_21, t69_23, t69_26, t69_27, t69_30, t69_33, t69_34, t69_37, t69_39, t69_42, t69_45, t69_46, t69_48, t69_51, t69_52, t69_53, t69_56, t69_59, t69_62, t69_63, t69_65, t69_68, t69_69, t69_70, t69_71, t69_74, t69_75, t69_76, t69_77, t69_80, t69_81, t69_84, t69_85, t69_88, t69_89, t69_90, lk_s, hp_get, hp_set, uH_at, uH_ne, uH_upd, uH_swap, iZ_add, iZ_sub, iZ_mul, iZ_neg, iZ_lt, iZ_le, iZ_eq, iZ_div, iZ_of, ix_Z, gZ_map, gZ_mapI, gZ_map', le_0, le_s, sZ_map, sZ_len, bZ_0, bZ_inj, bZ_t, bZ_f, nr_i, nr_0, nr_1, nr_b, ft_i, ft_b, ft_0, ft_1, zl_0, zl_1, zl_3, zl_30, l0, c02, c03, mm, hsh, e2, dk, -List.filter_filter, -List.getElem?_map, -List.getD_eq_getElem?_getD]
/-- how the law tells a fault of step -/
def cd_ (r : Int) : Nat := if r = -3 then 10 else if r = -4 then 11 else if r = -1 ∨ r = -2 then 9 else 12
theorem AVs_rng {rule i k j l p why : Int} {Ds' : List (List (Int × List Int) × Bool × Int × Int)} {U' : List Int} (h : AVs Ds T U rule i k j l p why Ds' U') : -8 ≤ why ∧ why ≤ 0 ∧ (why ≠ 0 → Ds' = Ds ∧ U' = U) := by
  have rz : ∀ {rr : Int} {C' : List (Int × List Int)}, rzR Ds rule i k j l p rr C' → rr = 0 ∨ (-7 ≤ rr ∧ rr ≤ -5) := fun {rr C'} a3 => by
    unfold rzR at a3
    split at a3
    · exact RZ_rng a3
    · split at a3
      · exact RZ_rng a3
      · split at a3
        · exact RZ_rng a3
        · exact RZ_rng a3
  unfold AVs at h
  split at h
  · exact ⟨by omega, by omega, fun _ => ⟨h.2.1, h.2.2⟩⟩
  · split at h
    · exact ⟨by omega, by omega, fun _ => ⟨h.2.1, h.2.2⟩⟩
    · split at h
      · obtain ⟨rr, C', q1, q2⟩ := h
        have := rz q1
        split at q2
        · exact ⟨by omega, by omega, fun z => absurd q2.1 z⟩
        · exact ⟨by omega, by omega, fun _ => ⟨q2.2.1, q2.2.2⟩⟩
      · split at h
        · exact ⟨by omega, by omega, fun _ => ⟨h.2.1, h.2.2⟩⟩
        · split at h
          · exact ⟨by omega, by omega, fun _ => ⟨h.2.1, h.2.2⟩⟩
          · split at h
            · split at h
              · exact ⟨by omega, by omega, fun z => absurd h.1 z⟩
              · exact ⟨by omega, by omega, fun _ => ⟨h.2.1, h.2.2⟩⟩
            · obtain ⟨rr, C', q1, q2⟩ := h
              have := rz q1
              split at q2
              · split at q2
                · exact ⟨by omega, by omega, fun z => absurd q2.1 z⟩
                · exact ⟨by omega, by omega, fun _ => ⟨q2.2.1, q2.2.2⟩⟩
              · exact ⟨by omega, by omega, fun _ => ⟨q2.2.1, q2.2.2⟩⟩
theorem AVs_len {rule i k j l p : Int} {Ds' : List (List (Int × List Int) × Bool × Int × Int)} {U' : List Int} (h : AVs Ds T U rule i k j l p 0 Ds' U') : Ds'.length = Ds.length + 1 := by
  have rz : ∀ {rr : Int} {C' : List (Int × List Int)}, rzR Ds rule i k j l p rr C' → rr = 0 ∨ (-7 ≤ rr ∧ rr ≤ -5) := fun {rr C'} a3 => by
    unfold rzR at a3
    split at a3
    · exact RZ_rng a3
    · split at a3
      · exact RZ_rng a3
      · split at a3
        · exact RZ_rng a3
        · exact RZ_rng a3
  unfold AVs at h
  split at h
  · have := h.1; omega
  · split at h
    · have := h.1; omega
    · split at h
      · obtain ⟨rr, C', q1, q2⟩ := h
        split at q2
        · rw [q2.2.1]; simp
        · have := rz q1; have := q2.1; omega
      · split at h
        · have := h.1; omega
        · split at h
          · have := h.1; omega
          · split at h
            · split at h
              · rw [h.2.1]; simp
              · have := h.1; omega
            · obtain ⟨rr, C', q1, q2⟩ := h
              split at q2
              · split at q2
                · rw [q2.2.1]; simp
                · have := q2.1; omega
              · have := rz q1; have := q2.1; omega
set_option maxHeartbeats 1000000 in
theorem m70 (d : Nat) (h : CS w N Ds T U clm cf lf) (hK : KI Ds U) (hR : HR Ds) (rule i k j l p : Int) (rr : -2147483648 ≤ rule ∧ rule < 2147483648) (ir : -2147483648 ≤ i ∧ i < 2147483648) (kr : -2147483648 ≤ k ∧ k < 2147483648) (jr : -2147483648 ≤ j ∧ j < 2147483648) (lr : -2147483648 ≤ l ∧ l < 2147483648) (pr : -2147483648 ≤ p ∧ p < 2147483648) :
    ∃ (w' : Nat → xC) (N' : Nat) (out : Option Value) (why : Int) (Ds' : List (List (Int × List Int) × Bool × Int × Int)) (U' : List Int) (clm' cf' : Int), N ≤ N' ∧ N' ≤ N + 1 + 206 * (Ds'.length - Ds.length) ∧ CS w' N' Ds' [] U' clm' cf' why ∧ (∀ j, 27 ≤ j → j < N → w' j = w j) ∧ AVs Ds T U rule i k j l p why Ds' U' ∧ OutX w' N' out ∧ (why = 0 → out = some (.int (iZ (Ds.length : Int)))) ∧ (why ≠ 0 → out = some (.retAddr (cd_ why))) ∧ Xc (d + 56) 70 [.ref 3, .int (iZ rule), .int (iZ i), .int (iZ k), .int (iZ j), .int (iZ l), .int (iZ p)] (hp w N) (out, hp w' N') := by
  obtain ⟨w1, cm, cf', a1, a2, a3, a4⟩ := m82 (d + 19) h
  obtain ⟨w2, N2, why, Ds', U', b1, b2, b3, b4, b5, b6⟩ := m83 (d) a2 a3 hK hR rule i k j l p rr ir kr jr lr pr
  have X83 : Xc (d + 55) 83 [.ref 3, .int (iZ rule), .int (iZ i), .int (iZ k), .int (iZ j), .int (iZ l), .int (iZ p)] (hp w1 N) (some (.int (iZ why)), hp w2 N2) := Xc.of rfl (by simp [lg_sl, Value.category]) b6 (a2.le b3 b1 b4)
  obtain ⟨y1, y2, y3⟩ := AVs_rng b5
  have c0 := h.1
  have c01 := a2.1
  have c02 := b3.1
  have hN := h.2.2.2.2.2.2.2.2.2.2.2.1
  obtain ⟨w3, hw3⟩ : ∃ w3, w3 = uH w2 0 (dk Ds'.length cm cf' why) := ⟨_, rfl⟩
  have CS3 := b3.set0 why
  rw [← hw3] at CS3
  have c03 := CS3.1
  have fr : ∀ j, 27 ≤ j → j < N → w3 j = w j := fun j j0 j1 => by rw [hw3, uH_ne (by omega), b4 j j0 j1]; exact a1 j (by omega)
  by_cases hw : why = 0
  · subst hw
    have hlen := AVs_len b5
    refine ⟨w3, N2, some (.int (iZ (Ds.length : Int))), 0, Ds', U', cm, cf', b1, ?_, CS3, fr, b5, fun t e => (by cases e), fun _ => rfl, fun z => absurd rfl z, ?_⟩
    · split at b2 <;> omega
    · have hle := h.le CS3 b1 fr
      rw [hlen] at c02 c03 hw3
      obtain ⟨cnt, hcnt⟩ : ∃ cnt : Int, cnt = (Ds.length : Int) := ⟨_, rfl⟩
      rw [show ((Ds.length + 1 : Nat) : Int) = cnt + 1 by omega] at c02 c03 hw3
      rw [← hcnt] at c0 c01 ⊢
      have e2 : cnt + 1 - 1 = cnt := by omega
      refine Xc.of rfl (by simp [lg_sl, Value.category]) ?_ (hle)
      have hc : c1 (lv_args 0 [.ref 3, .int (iZ rule), .int (iZ i), .int (iZ k), .int (iZ j), .int (iZ l), .int (iZ p)]) := by simp [c1, lv_args, Value.category]
      have l0 : x_lk (lv_args 0 [.ref 3, .int (iZ rule), .int (iZ i), .int (iZ k), .int (iZ j), .int (iZ l), .int (iZ p)]) 0 = some (.ref 3) := rfl
      have l1 : x_lk (lv_args 0 [.ref 3, .int (iZ rule), .int (iZ i), .int (iZ k), .int (iZ j), .int (iZ l), .int (iZ p)]) 1 = some (.int (iZ rule)) := rfl
      have l2 : x_lk (lv_args 0 [.ref 3, .int (iZ rule), .int (iZ i), .int (iZ k), .int (iZ j), .int (iZ l), .int (iZ p)]) 2 = some (.int (iZ i)) := rfl
      have l3 : x_lk (lv_args 0 [.ref 3, .int (iZ rule), .int (iZ i), .int (iZ k), .int (iZ j), .int (iZ l), .int (iZ p)]) 3 = some (.int (iZ k)) := rfl
      have l4 : x_lk (lv_args 0 [.ref 3, .int (iZ rule), .int (iZ i), .int (iZ k), .int (iZ j), .int (iZ l), .int (iZ p)]) 4 = some (.int (iZ j)) := rfl
      have l5 : x_lk (lv_args 0 [.ref 3, .int (iZ rule), .int (iZ i), .int (iZ k), .int (iZ j), .int (iZ l), .int (iZ p)]) 5 = some (.int (iZ l)) := rfl
      have l6 : x_lk (lv_args 0 [.ref 3, .int (iZ rule), .int (iZ i), .int (iZ k), .int (iZ j), .int (iZ l), .int (iZ p)]) 6 = some (.int (iZ p)) := rfl
      generalize lv_args 0 [.ref 3, .int (iZ rule), .int (iZ i), .int (iZ k), .int (iZ j), .int (iZ l), .int (iZ p)] = lv at hc l0 l1 l2 l3 l4 l5 l6
      rw [hw3]
      refine Gx.fin 60 (a4.and X83) (fun X mm => ?_)
      obtain ⟨mm1, mm2⟩ := mm
      have n2 : 53 ≤ N2 := by omega
      simp (disch := first | (refine c1_id ?_; assumption) | (refine c1_st rfl ?_; repeat (first | assumption | refine c1_st rfl ?_)) | omega) [nx_l, nx_r, nx_n, x_st, x_push, x_bin, x_div, x_un, x_dup, x_pop, x_dup2, x_goto, x_ifeq, x_ifne, x_iflt, x_ifge, x_ifgt, x_ifle, x_iceq, x_icne, x_iclt, x_icge, x_icgt, x_icle, x_ifnull, x_ifnonnull, x_ldi, x_lda, x_sti, x_sta, x_iinc, x_gf, x_pf, x_ald, x_ast, x_aln, x_len, x_cl_, x_cv, x_cs, x_rc, x_r0, x_isT, x_oi, x_rv, x_ri, x_ra, Value.category, t70_0, t70_1, t70_4, t70_5, t70_6, t70_7, t70_8, t70_9, t70_11, t70_13, t70_15, t70_18, t70_21, t70_22, t70_25, t70_27, t70_30, t70_33, t70_34, t70_36, t70_39, t70_40, t70_41, t70_44, t70_46, t70_49, t70_52, t70_53, t70_55, t70_58, t70_59, t70_60, t70_63, t70_64, t70_67, t70_68, t70_71, t70_73, t70_76, t70_79, t70_80, t70_82, t70_85, t70_86, t70_87, t70_90, t70_93, t70_96, t70_97, t70_99, t70_102, t70_103, t70_104, t70_107, t70_108, t70_109, lk_s, hp_get, hp_set, uH_at, uH_ne, uH_upd, uH_swap, iZ_add, iZ_sub, iZ_mul, iZ_neg, iZ_lt, iZ_le, iZ_eq, iZ_div, iZ_of, ix_Z, gZ_map, gZ_mapI, gZ_map', le_0, le_s, sZ_map, sZ_len, bZ_0, bZ_inj, bZ_t, bZ_f, nr_i, nr_0, nr_1, nr_b, ft_i, ft_b, ft_0, ft_1, zl_0, zl_1, zl_2, zl_3, zl_4, l0, l1, l2, l3, l4, l5, l6, c0, c01, c02, mm1, mm2, e2, dk, -List.filter_filter, -List.getElem?_map, -List.getD_eq_getElem?_getD]
  · obtain ⟨ed, eu⟩ := y3 hw
    subst ed
    have eN : N2 = N := by
      rw [if_pos rfl] at b2
      omega
    subst eN
    have CS4 := CS3.grow (exO_sz (cd_ why))
    have fr4 : ∀ j, 27 ≤ j → j < N2 → uH w3 N2 (exO (cd_ why)) j = w j := fun j j0 j1 => by rw [uH_ne (by omega)]; exact fr j j0 j1
    refine ⟨uH w3 N2 (exO (cd_ why)), N2 + 1, some (.retAddr (cd_ why)), why, Ds', U', cm, cf', by omega, by omega, CS4, fr4, b5, fun t e => ?_, fun z => absurd z hw, fun _ => rfl, ?_⟩
    · injection e with e
      injection e with e
      rw [← e]
      exact ⟨uH_at _ _ _, by omega⟩
    · have hle := h.le CS4 (by omega) fr4
      obtain ⟨cnt, hcnt⟩ : ∃ cnt : Int, cnt = (Ds'.length : Int) := ⟨_, rfl⟩
      rw [← hcnt] at c0 c01 c02 hw3
      refine Xc.of rfl (by simp [lg_sl, Value.category]) ?_ (hle)
      have hc : c1 (lv_args 0 [.ref 3, .int (iZ rule), .int (iZ i), .int (iZ k), .int (iZ j), .int (iZ l), .int (iZ p)]) := by simp [c1, lv_args, Value.category]
      have l0 : x_lk (lv_args 0 [.ref 3, .int (iZ rule), .int (iZ i), .int (iZ k), .int (iZ j), .int (iZ l), .int (iZ p)]) 0 = some (.ref 3) := rfl
      have l1 : x_lk (lv_args 0 [.ref 3, .int (iZ rule), .int (iZ i), .int (iZ k), .int (iZ j), .int (iZ l), .int (iZ p)]) 1 = some (.int (iZ rule)) := rfl
      have l2 : x_lk (lv_args 0 [.ref 3, .int (iZ rule), .int (iZ i), .int (iZ k), .int (iZ j), .int (iZ l), .int (iZ p)]) 2 = some (.int (iZ i)) := rfl
      have l3 : x_lk (lv_args 0 [.ref 3, .int (iZ rule), .int (iZ i), .int (iZ k), .int (iZ j), .int (iZ l), .int (iZ p)]) 3 = some (.int (iZ k)) := rfl
      have l4 : x_lk (lv_args 0 [.ref 3, .int (iZ rule), .int (iZ i), .int (iZ k), .int (iZ j), .int (iZ l), .int (iZ p)]) 4 = some (.int (iZ j)) := rfl
      have l5 : x_lk (lv_args 0 [.ref 3, .int (iZ rule), .int (iZ i), .int (iZ k), .int (iZ j), .int (iZ l), .int (iZ p)]) 5 = some (.int (iZ l)) := rfl
      have l6 : x_lk (lv_args 0 [.ref 3, .int (iZ rule), .int (iZ i), .int (iZ k), .int (iZ j), .int (iZ l), .int (iZ p)]) 6 = some (.int (iZ p)) := rfl
      generalize lv_args 0 [.ref 3, .int (iZ rule), .int (iZ i), .int (iZ k), .int (iZ j), .int (iZ l), .int (iZ p)] = lv at hc l0 l1 l2 l3 l4 l5 l6
      rw [hw3]
      refine Gx.fin 60 (a4.and X83) (fun X mm => ?_)
      obtain ⟨mm1, mm2⟩ := mm
      unfold cd_
      by_cases e3 : why = -3
      · rw [if_pos e3]
        subst e3
        simp (disch := first | (refine c1_id ?_; assumption) | (refine c1_st rfl ?_; repeat (first | assumption | refine c1_st rfl ?_)) | omega) [nx_l, nx_r, nx_n, x_st, x_push, x_bin, x_div, x_un, x_dup, x_pop, x_dup2, x_goto, x_ifeq, x_ifne, x_iflt, x_ifge, x_ifgt, x_ifle, x_iceq, x_icne, x_iclt, x_icge, x_icgt, x_icle, x_ifnull, x_ifnonnull, x_ldi, x_lda, x_sti, x_sta, x_iinc, x_gf, x_pf, x_ald, x_ast, x_aln, x_len, x_cl_, x_cv, x_cs, x_rc, x_r0, x_isT, x_oi, x_rv, x_ri, x_ra, Value.category, t70_0, t70_1, t70_4, t70_5, t70_6, t70_7, t70_8, t70_9, t70_11, t70_13, t70_15, t70_18, t70_21, t70_22, t70_25, t70_27, t70_30, t70_33, t70_34, t70_36, t70_39, t70_40, t70_41, t70_44, t70_46, t70_49, t70_52, t70_53, t70_55, t70_58, t70_59, t70_60, t70_63, t70_64, t70_67, t70_68, t70_71, t70_73, t70_76, t70_79, t70_80, t70_82, t70_85, t70_86, t70_87, t70_90, t70_93, t70_96, t70_97, t70_99, t70_102, t70_103, t70_104, t70_107, t70_108, t70_109, lk_s, hp_get, hp_set, uH_at, uH_ne, uH_upd, uH_swap, iZ_add, iZ_sub, iZ_mul, iZ_neg, iZ_lt, iZ_le, iZ_eq, iZ_div, iZ_of, ix_Z, gZ_map, gZ_mapI, gZ_map', le_0, le_s, sZ_map, sZ_len, bZ_0, bZ_inj, bZ_t, bZ_f, nr_i, nr_0, nr_1, nr_b, ft_i, ft_b, ft_0, ft_1, zl_0, zl_1, zl_2, zl_3, zl_4, l0, l1, l2, l3, l4, l5, l6, c0, c01, c02, mm1, mm2, x_thr, hp_push, hp_len, dk, exO, -List.filter_filter, -List.getElem?_map, -List.getD_eq_getElem?_getD]
      · rw [if_neg e3]
        by_cases e4 : why = -4
        · rw [if_pos e4]
          subst e4
          simp (disch := first | (refine c1_id ?_; assumption) | (refine c1_st rfl ?_; repeat (first | assumption | refine c1_st rfl ?_)) | omega) [nx_l, nx_r, nx_n, x_st, x_push, x_bin, x_div, x_un, x_dup, x_pop, x_dup2, x_goto, x_ifeq, x_ifne, x_iflt, x_ifge, x_ifgt, x_ifle, x_iceq, x_icne, x_iclt, x_icge, x_icgt, x_icle, x_ifnull, x_ifnonnull, x_ldi, x_lda, x_sti, x_sta, x_iinc, x_gf, x_pf, x_ald, x_ast, x_aln, x_len, x_cl_, x_cv, x_cs, x_rc, x_r0, x_isT, x_oi, x_rv, x_ri, x_ra, Value.category, t70_0, t70_1, t70_4, t70_5, t70_6, t70_7, t70_8, t70_9, t70_11, t70_13, t70_15, t70_18, t70_21, t70_22, t70_25, t70_27, t70_30, t70_33, t70_34, t70_36, t70_39, t70_40, t70_41, t70_44, t70_46, t70_49, t70_52, t70_53, t70_55, t70_58, t70_59, t70_60, t70_63, t70_64, t70_67, t70_68, t70_71, t70_73, t70_76, t70_79, t70_80, t70_82, t70_85, t70_86, t70_87, t70_90, t70_93, t70_96, t70_97, t70_99, t70_102, t70_103, t70_104, t70_107, t70_108, t70_109, lk_s, hp_get, hp_set, uH_at, uH_ne, uH_upd, uH_swap, iZ_add, iZ_sub, iZ_mul, iZ_neg, iZ_lt, iZ_le, iZ_eq, iZ_div, iZ_of, ix_Z, gZ_map, gZ_mapI, gZ_map', le_0, le_s, sZ_map, sZ_len, bZ_0, bZ_inj, bZ_t, bZ_f, nr_i, nr_0, nr_1, nr_b, ft_i, ft_b, ft_0, ft_1, zl_0, zl_1, zl_2, zl_3, zl_4, l0, l1, l2, l3, l4, l5, l6, c0, c01, c02, mm1, mm2, x_thr, hp_push, hp_len, dk, exO, -List.filter_filter, -List.getElem?_map, -List.getD_eq_getElem?_getD]
        · rw [if_neg e4]
          by_cases e1 : why = -1
          · rw [if_pos (Or.inl e1)]
            subst e1
            simp (disch := first | (refine c1_id ?_; assumption) | (refine c1_st rfl ?_; repeat (first | assumption | refine c1_st rfl ?_)) | omega) [nx_l, nx_r, nx_n, x_st, x_push, x_bin, x_div, x_un, x_dup, x_pop, x_dup2, x_goto, x_ifeq, x_ifne, x_iflt, x_ifge, x_ifgt, x_ifle, x_iceq, x_icne, x_iclt, x_icge, x_icgt, x_icle, x_ifnull, x_ifnonnull, x_ldi, x_lda, x_sti, x_sta, x_iinc, x_gf, x_pf, x_ald, x_ast, x_aln, x_len, x_cl_, x_cv, x_cs, x_rc, x_r0, x_isT, x_oi, x_rv, x_ri, x_ra, Value.category, t70_0, t70_1, t70_4, t70_5, t70_6, t70_7, t70_8, t70_9, t70_11, t70_13, t70_15, t70_18, t70_21, t70_22, t70_25, t70_27, t70_30, t70_33, t70_34, t70_36, t70_39, t70_40, t70_41, t70_44, t70_46, t70_49, t70_52, t70_53, t70_55, t70_58, t70_59, t70_60, t70_63, t70_64, t70_67, t70_68, t70_71, t70_73, t70_76, t70_79, t70_80, t70_82, t70_85, t70_86, t70_87, t70_90, t70_93, t70_96, t70_97, t70_99, t70_102, t70_103, t70_104, t70_107, t70_108, t70_109, lk_s, hp_get, hp_set, uH_at, uH_ne, uH_upd, uH_swap, iZ_add, iZ_sub, iZ_mul, iZ_neg, iZ_lt, iZ_le, iZ_eq, iZ_div, iZ_of, ix_Z, gZ_map, gZ_mapI, gZ_map', le_0, le_s, sZ_map, sZ_len, bZ_0, bZ_inj, bZ_t, bZ_f, nr_i, nr_0, nr_1, nr_b, ft_i, ft_b, ft_0, ft_1, zl_0, zl_1, zl_2, zl_3, zl_4, l0, l1, l2, l3, l4, l5, l6, c0, c01, c02, mm1, mm2, x_thr, hp_push, hp_len, dk, exO, -List.filter_filter, -List.getElem?_map, -List.getD_eq_getElem?_getD]
          · by_cases e2 : why = -2
            · rw [if_pos (Or.inr e2)]
              subst e2
              simp (disch := first | (refine c1_id ?_; assumption) | (refine c1_st rfl ?_; repeat (first | assumption | refine c1_st rfl ?_)) | omega) [nx_l, nx_r, nx_n, x_st, x_push, x_bin, x_div, x_un, x_dup, x_pop, x_dup2, x_goto, x_ifeq, x_ifne, x_iflt, x_ifge, x_ifgt, x_ifle, x_iceq, x_icne, x_iclt, x_icge, x_icgt, x_icle, x_ifnull, x_ifnonnull, x_ldi, x_lda, x_sti, x_sta, x_iinc, x_gf, x_pf, x_ald, x_ast, x_aln, x_len, x_cl_, x_cv, x_cs, x_rc, x_r0, x_isT, x_oi, x_rv, x_ri, x_ra, Value.category, t70_0, t70_1, t70_4, t70_5, t70_6, t70_7, t70_8, t70_9, t70_11, t70_13, t70_15, t70_18, t70_21, t70_22, t70_25, t70_27, t70_30, t70_33, t70_34, t70_36, t70_39, t70_40, t70_41, t70_44, t70_46, t70_49, t70_52, t70_53, t70_55, t70_58, t70_59, t70_60, t70_63, t70_64, t70_67, t70_68, t70_71, t70_73, t70_76, t70_79, t70_80, t70_82, t70_85, t70_86, t70_87, t70_90, t70_93, t70_96, t70_97, t70_99, t70_102, t70_103, t70_104, t70_107, t70_108, t70_109, lk_s, hp_get, hp_set, uH_at, uH_ne, uH_upd, uH_swap, iZ_add, iZ_sub, iZ_mul, iZ_neg, iZ_lt, iZ_le, iZ_eq, iZ_div, iZ_of, ix_Z, gZ_map, gZ_mapI, gZ_map', le_0, le_s, sZ_map, sZ_len, bZ_0, bZ_inj, bZ_t, bZ_f, nr_i, nr_0, nr_1, nr_b, ft_i, ft_b, ft_0, ft_1, zl_0, zl_1, zl_2, zl_3, zl_4, l0, l1, l2, l3, l4, l5, l6, c0, c01, c02, mm1, mm2, x_thr, hp_push, hp_len, dk, exO, -List.filter_filter, -List.getElem?_map, -List.getD_eq_getElem?_getD]
            · rw [if_neg (by omega)]
              simp (disch := first | (refine c1_id ?_; assumption) | (refine c1_st rfl ?_; repeat (first | assumption | refine c1_st rfl ?_)) | omega) [nx_l, nx_r, nx_n, x_st, x_push, x_bin, x_div, x_un, x_dup, x_pop, x_dup2, x_goto, x_ifeq, x_ifne, x_iflt, x_ifge, x_ifgt, x_ifle, x_iceq, x_icne, x_iclt, x_icge, x_icgt, x_icle, x_ifnull, x_ifnonnull, x_ldi, x_lda, x_sti, x_sta, x_iinc, x_gf, x_pf, x_ald, x_ast, x_aln, x_len, x_cl_, x_cv, x_cs, x_rc, x_r0, x_isT, x_oi, x_rv, x_ri, x_ra, Value.category, t70_0, t70_1, t70_4, t70_5, t70_6, t70_7, t70_8, t70_9, t70_11, t70_13, t70_15, t70_18, t70_21, t70_22, t70_25, t70_27, t70_30, t70_33, t70_34, t70_36, t70_39, t70_40, t70_41, t70_44, t70_46, t70_49, t70_52, t70_53, t70_55, t70_58, t70_59, t70_60, t70_63, t70_64, t70_67, t70_68, t70_71, t70_73, t70_76, t70_79, t70_80, t70_82, t70_85, t70_86, t70_87, t70_90, t70_93, t70_96, t70_97, t70_99, t70_102, t70_103, t70_104, t70_107, t70_108, t70_109, lk_s, hp_get, hp_set, uH_at, uH_ne, uH_upd, uH_swap, iZ_add, iZ_sub, iZ_mul, iZ_neg, iZ_lt, iZ_le, iZ_eq, iZ_div, iZ_of, ix_Z, gZ_map, gZ_mapI, gZ_map', le_0, le_s, sZ_map, sZ_len, bZ_0, bZ_inj, bZ_t, bZ_f, nr_i, nr_0, nr_1, nr_b, ft_i, ft_b, ft_0, ft_1, zl_0, zl_1, zl_2, zl_3, zl_4, l0, l1, l2, l3, l4, l5, l6, c0, c01, c02, e1, e2, e3, e4, hw, mm1, mm2, x_thr, hp_push, hp_len, dk, exO, -List.filter_filter, -List.getElem?_map, -List.getD_eq_getElem?_getD]
end GST
