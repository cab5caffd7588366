/-! the class: the short answers -/
theorem f71_0 : x_fetch q_k71 0 = x_lda 1 0 := rfl
theorem t71_0 (C : xF) (s n : Nat) (z : xS) : x_to q_k71 C s (n + 1) 0 z = x_nx q_k71 C s n ((x_lda 1 0) C z) := x_to_at f71_0 C s n z
theorem f71_1 : x_fetch q_k71 1 = x_gf 4 0 9 := rfl
theorem t71_1 (C : xF) (s n : Nat) (z : xS) : x_to q_k71 C s (n + 1) 1 z = x_nx q_k71 C s n ((x_gf 4 0 9) C z) := x_to_at f71_1 C s n z
theorem f71_4 : x_fetch q_k71 4 = x_ri (.int) := rfl
theorem t71_4 (C : xF) (s n : Nat) (z : xS) : x_to q_k71 C s (n + 1) 4 z = x_nx q_k71 C s n ((x_ri (.int)) C z) := x_to_at f71_4 C s n z
theorem f72_0 : x_fetch q_k72 0 = x_lda 1 0 := rfl
theorem t72_0 (C : xF) (s n : Nat) (z : xS) : x_to q_k72 C s (n + 1) 0 z = x_nx q_k72 C s n ((x_lda 1 0) C z) := x_to_at f72_0 C s n z
theorem f72_1 : x_fetch q_k72 1 = x_gf 4 0 2 := rfl
theorem t72_1 (C : xF) (s n : Nat) (z : xS) : x_to q_k72 C s (n + 1) 1 z = x_nx q_k72 C s n ((x_gf 4 0 2) C z) := x_to_at f72_1 C s n z
theorem f72_4 : x_fetch q_k72 4 = x_ri (.int) := rfl
theorem t72_4 (C : xF) (s n : Nat) (z : xS) : x_to q_k72 C s (n + 1) 4 z = x_nx q_k72 C s n ((x_ri (.int)) C z) := x_to_at f72_4 C s n z
theorem f73_0 : x_fetch q_k73 0 = x_lda 1 0 := rfl
theorem t73_0 (C : xF) (s n : Nat) (z : xS) : x_to q_k73 C s (n + 1) 0 z = x_nx q_k73 C s n ((x_lda 1 0) C z) := x_to_at f73_0 C s n z
theorem f73_1 : x_fetch q_k73 1 = x_ldi 2 1 := rfl
theorem t73_1 (C : xF) (s n : Nat) (z : xS) : x_to q_k73 C s (n + 1) 1 z = x_nx q_k73 C s n ((x_ldi 2 1) C z) := x_to_at f73_1 C s n z
theorem f73_2 : x_fetch q_k73 2 = x_cv 5 81 2 0 := rfl
theorem t73_2 (C : xF) (s n : Nat) (z : xS) : x_to q_k73 C s (n + 1) 2 z = x_nx q_k73 C s n ((x_cv 5 81 2 0) C z) := x_to_at f73_2 C s n z
theorem f73_5 : x_fetch q_k73 5 = x_sta 6 2 := rfl
theorem t73_5 (C : xF) (s n : Nat) (z : xS) : x_to q_k73 C s (n + 1) 5 z = x_nx q_k73 C s n ((x_sta 6 2) C z) := x_to_at f73_5 C s n z
theorem f73_6 : x_fetch q_k73 6 = x_lda 7 2 := rfl
theorem t73_6 (C : xF) (s n : Nat) (z : xS) : x_to q_k73 C s (n + 1) 6 z = x_nx q_k73 C s n ((x_lda 7 2) C z) := x_to_at f73_6 C s n z
theorem f73_7 : x_fetch q_k73 7 = x_st (x_ifnonnull 14 10) := rfl
theorem t73_7 (C : xF) (s n : Nat) (z : xS) : x_to q_k73 C s (n + 1) 7 z = x_nx q_k73 C s n ((x_st (x_ifnonnull 14 10)) C z) := x_to_at f73_7 C s n z
theorem f73_10 : x_fetch q_k73 10 = x_st (x_push 11 (.int (-1))) := rfl
theorem t73_10 (C : xF) (s n : Nat) (z : xS) : x_to q_k73 C s (n + 1) 10 z = x_nx q_k73 C s n ((x_st (x_push 11 (.int (-1)))) C z) := x_to_at f73_10 C s n z
theorem f73_11 : x_fetch q_k73 11 = x_st (x_goto 21) := rfl
theorem t73_11 (C : xF) (s n : Nat) (z : xS) : x_to q_k73 C s (n + 1) 11 z = x_nx q_k73 C s n ((x_st (x_goto 21)) C z) := x_to_at f73_11 C s n z
theorem f73_14 : x_fetch q_k73 14 = x_lda 15 2 := rfl
theorem t73_14 (C : xF) (s n : Nat) (z : xS) : x_to q_k73 C s (n + 1) 14 z = x_nx q_k73 C s n ((x_lda 15 2) C z) := x_to_at f73_14 C s n z
theorem f73_15 : x_fetch q_k73 15 = x_gf 18 1 0 := rfl
theorem t73_15 (C : xF) (s n : Nat) (z : xS) : x_to q_k73 C s (n + 1) 15 z = x_nx q_k73 C s n ((x_gf 18 1 0) C z) := x_to_at f73_15 C s n z
theorem f73_18 : x_fetch q_k73 18 = x_gf 21 4 3 := rfl
theorem t73_18 (C : xF) (s n : Nat) (z : xS) : x_to q_k73 C s (n + 1) 18 z = x_nx q_k73 C s n ((x_gf 21 4 3) C z) := x_to_at f73_18 C s n z
theorem f73_21 : x_fetch q_k73 21 = x_ri (.int) := rfl
theorem t73_21 (C : xF) (s n : Nat) (z : xS) : x_to q_k73 C s (n + 1) 21 z = x_nx q_k73 C s n ((x_ri (.int)) C z) := x_to_at f73_21 C s n z
theorem f74_0 : x_fetch q_k74 0 = x_lda 1 0 := rfl
theorem t74_0 (C : xF) (s n : Nat) (z : xS) : x_to q_k74 C s (n + 1) 0 z = x_nx q_k74 C s n ((x_lda 1 0) C z) := x_to_at f74_0 C s n z
theorem f74_1 : x_fetch q_k74 1 = x_ldi 2 1 := rfl
theorem t74_1 (C : xF) (s n : Nat) (z : xS) : x_to q_k74 C s (n + 1) 1 z = x_nx q_k74 C s n ((x_ldi 2 1) C z) := x_to_at f74_1 C s n z
theorem f74_2 : x_fetch q_k74 2 = x_cv 5 81 2 0 := rfl
theorem t74_2 (C : xF) (s n : Nat) (z : xS) : x_to q_k74 C s (n + 1) 2 z = x_nx q_k74 C s n ((x_cv 5 81 2 0) C z) := x_to_at f74_2 C s n z
theorem f74_5 : x_fetch q_k74 5 = x_sta 6 2 := rfl
theorem t74_5 (C : xF) (s n : Nat) (z : xS) : x_to q_k74 C s (n + 1) 5 z = x_nx q_k74 C s n ((x_sta 6 2) C z) := x_to_at f74_5 C s n z
theorem f74_6 : x_fetch q_k74 6 = x_lda 7 2 := rfl
theorem t74_6 (C : xF) (s n : Nat) (z : xS) : x_to q_k74 C s (n + 1) 6 z = x_nx q_k74 C s n ((x_lda 7 2) C z) := x_to_at f74_6 C s n z
theorem f74_7 : x_fetch q_k74 7 = x_st (x_ifnonnull 14 10) := rfl
theorem t74_7 (C : xF) (s n : Nat) (z : xS) : x_to q_k74 C s (n + 1) 7 z = x_nx q_k74 C s n ((x_st (x_ifnonnull 14 10)) C z) := x_to_at f74_7 C s n z
theorem f74_10 : x_fetch q_k74 10 = x_st (x_push 11 (.int (-1))) := rfl
theorem t74_10 (C : xF) (s n : Nat) (z : xS) : x_to q_k74 C s (n + 1) 10 z = x_nx q_k74 C s n ((x_st (x_push 11 (.int (-1)))) C z) := x_to_at f74_10 C s n z
theorem f74_11 : x_fetch q_k74 11 = x_st (x_goto 21) := rfl
theorem t74_11 (C : xF) (s n : Nat) (z : xS) : x_to q_k74 C s (n + 1) 11 z = x_nx q_k74 C s n ((x_st (x_goto 21)) C z) := x_to_at f74_11 C s n z
theorem f74_14 : x_fetch q_k74 14 = x_lda 15 2 := rfl
theorem t74_14 (C : xF) (s n : Nat) (z : xS) : x_to q_k74 C s (n + 1) 14 z = x_nx q_k74 C s n ((x_lda 15 2) C z) := x_to_at f74_14 C s n z
theorem f74_15 : x_fetch q_k74 15 = x_gf 18 1 0 := rfl
theorem t74_15 (C : xF) (s n : Nat) (z : xS) : x_to q_k74 C s (n + 1) 15 z = x_nx q_k74 C s n ((x_gf 18 1 0) C z) := x_to_at f74_15 C s n z
theorem f74_18 : x_fetch q_k74 18 = x_gf 21 4 4 := rfl
theorem t74_18 (C : xF) (s n : Nat) (z : xS) : x_to q_k74 C s (n + 1) 18 z = x_nx q_k74 C s n ((x_gf 21 4 4) C z) := x_to_at f74_18 C s n z
theorem f74_21 : x_fetch q_k74 21 = x_ri (.int) := rfl
theorem t74_21 (C : xF) (s n : Nat) (z : xS) : x_to q_k74 C s (n + 1) 21 z = x_nx q_k74 C s n ((x_ri (.int)) C z) := x_to_at f74_21 C s n z
theorem f75_0 : x_fetch q_k75 0 = x_lda 1 0 := rfl
theorem t75_0 (C : xF) (s n : Nat) (z : xS) : x_to q_k75 C s (n + 1) 0 z = x_nx q_k75 C s n ((x_lda 1 0) C z) := x_to_at f75_0 C s n z
theorem f75_1 : x_fetch q_k75 1 = x_ldi 2 1 := rfl
theorem t75_1 (C : xF) (s n : Nat) (z : xS) : x_to q_k75 C s (n + 1) 1 z = x_nx q_k75 C s n ((x_ldi 2 1) C z) := x_to_at f75_1 C s n z
theorem f75_2 : x_fetch q_k75 2 = x_cv 5 81 2 0 := rfl
theorem t75_2 (C : xF) (s n : Nat) (z : xS) : x_to q_k75 C s (n + 1) 2 z = x_nx q_k75 C s n ((x_cv 5 81 2 0) C z) := x_to_at f75_2 C s n z
theorem f75_5 : x_fetch q_k75 5 = x_sta 6 3 := rfl
theorem t75_5 (C : xF) (s n : Nat) (z : xS) : x_to q_k75 C s (n + 1) 5 z = x_nx q_k75 C s n ((x_sta 6 3) C z) := x_to_at f75_5 C s n z
theorem f75_6 : x_fetch q_k75 6 = x_lda 7 3 := rfl
theorem t75_6 (C : xF) (s n : Nat) (z : xS) : x_to q_k75 C s (n + 1) 6 z = x_nx q_k75 C s n ((x_lda 7 3) C z) := x_to_at f75_6 C s n z
theorem f75_7 : x_fetch q_k75 7 = x_st (x_ifnull 25 10) := rfl
theorem t75_7 (C : xF) (s n : Nat) (z : xS) : x_to q_k75 C s (n + 1) 7 z = x_nx q_k75 C s n ((x_st (x_ifnull 25 10)) C z) := x_to_at f75_7 C s n z
theorem f75_10 : x_fetch q_k75 10 = x_ldi 11 2 := rfl
theorem t75_10 (C : xF) (s n : Nat) (z : xS) : x_to q_k75 C s (n + 1) 10 z = x_nx q_k75 C s n ((x_ldi 11 2) C z) := x_to_at f75_10 C s n z
theorem f75_11 : x_fetch q_k75 11 = x_st (x_iflt 25 14) := rfl
theorem t75_11 (C : xF) (s n : Nat) (z : xS) : x_to q_k75 C s (n + 1) 11 z = x_nx q_k75 C s n ((x_st (x_iflt 25 14)) C z) := x_to_at f75_11 C s n z
theorem f75_14 : x_fetch q_k75 14 = x_ldi 15 2 := rfl
theorem t75_14 (C : xF) (s n : Nat) (z : xS) : x_to q_k75 C s (n + 1) 14 z = x_nx q_k75 C s n ((x_ldi 15 2) C z) := x_to_at f75_14 C s n z
theorem f75_15 : x_fetch q_k75 15 = x_lda 16 3 := rfl
theorem t75_15 (C : xF) (s n : Nat) (z : xS) : x_to q_k75 C s (n + 1) 15 z = x_nx q_k75 C s n ((x_lda 16 3) C z) := x_to_at f75_15 C s n z
theorem f75_16 : x_fetch q_k75 16 = x_gf 19 1 3 := rfl
theorem t75_16 (C : xF) (s n : Nat) (z : xS) : x_to q_k75 C s (n + 1) 16 z = x_nx q_k75 C s n ((x_gf 19 1 3) C z) := x_to_at f75_16 C s n z
theorem f75_19 : x_fetch q_k75 19 = x_cvH 22 150 1 13 := rfl
theorem t75_19 (C : xF) (s n : Nat) (z : xS) : x_to q_k75 C s (n + 1) 19 z = x_nx q_k75 C s n ((x_cvH 22 150 1 13) C z) := x_to_at f75_19 C s n z
theorem f75_22 : x_fetch q_k75 22 = x_st (x_iclt 27 25) := rfl
theorem t75_22 (C : xF) (s n : Nat) (z : xS) : x_to q_k75 C s (n + 1) 22 z = x_nx q_k75 C s n ((x_st (x_iclt 27 25)) C z) := x_to_at f75_22 C s n z
theorem f75_25 : x_fetch q_k75 25 = x_st (x_push 26 (.int (-1))) := rfl
theorem t75_25 (C : xF) (s n : Nat) (z : xS) : x_to q_k75 C s (n + 1) 25 z = x_nx q_k75 C s n ((x_st (x_push 26 (.int (-1)))) C z) := x_to_at f75_25 C s n z
theorem f75_26 : x_fetch q_k75 26 = x_ri (.int) := rfl
theorem t75_26 (C : xF) (s n : Nat) (z : xS) : x_to q_k75 C s (n + 1) 26 z = x_nx q_k75 C s n ((x_ri (.int)) C z) := x_to_at f75_26 C s n z
theorem f75_27 : x_fetch q_k75 27 = x_lda 28 3 := rfl
theorem t75_27 (C : xF) (s n : Nat) (z : xS) : x_to q_k75 C s (n + 1) 27 z = x_nx q_k75 C s n ((x_lda 28 3) C z) := x_to_at f75_27 C s n z
theorem f75_28 : x_fetch q_k75 28 = x_gf 31 1 3 := rfl
theorem t75_28 (C : xF) (s n : Nat) (z : xS) : x_to q_k75 C s (n + 1) 28 z = x_nx q_k75 C s n ((x_gf 31 1 3) C z) := x_to_at f75_28 C s n z
theorem f75_31 : x_fetch q_k75 31 = x_ldi 32 2 := rfl
theorem t75_31 (C : xF) (s n : Nat) (z : xS) : x_to q_k75 C s (n + 1) 31 z = x_nx q_k75 C s n ((x_ldi 32 2) C z) := x_to_at f75_31 C s n z
theorem f75_32 : x_fetch q_k75 32 = x_cvH 35 152 2 13 := rfl
theorem t75_32 (C : xF) (s n : Nat) (z : xS) : x_to q_k75 C s (n + 1) 32 z = x_nx q_k75 C s n ((x_cvH 35 152 2 13) C z) := x_to_at f75_32 C s n z
theorem f75_35 : x_fetch q_k75 35 = x_ri (.int) := rfl
theorem t75_35 (C : xF) (s n : Nat) (z : xS) : x_to q_k75 C s (n + 1) 35 z = x_nx q_k75 C s n ((x_ri (.int)) C z) := x_to_at f75_35 C s n z
theorem f76_0 : x_fetch q_k76 0 = x_lda 1 0 := rfl
theorem t76_0 (C : xF) (s n : Nat) (z : xS) : x_to q_k76 C s (n + 1) 0 z = x_nx q_k76 C s n ((x_lda 1 0) C z) := x_to_at f76_0 C s n z
theorem f76_1 : x_fetch q_k76 1 = x_ldi 2 1 := rfl
theorem t76_1 (C : xF) (s n : Nat) (z : xS) : x_to q_k76 C s (n + 1) 1 z = x_nx q_k76 C s n ((x_ldi 2 1) C z) := x_to_at f76_1 C s n z
theorem f76_2 : x_fetch q_k76 2 = x_cv 5 81 2 0 := rfl
theorem t76_2 (C : xF) (s n : Nat) (z : xS) : x_to q_k76 C s (n + 1) 2 z = x_nx q_k76 C s n ((x_cv 5 81 2 0) C z) := x_to_at f76_2 C s n z
theorem f76_5 : x_fetch q_k76 5 = x_sta 6 2 := rfl
theorem t76_5 (C : xF) (s n : Nat) (z : xS) : x_to q_k76 C s (n + 1) 5 z = x_nx q_k76 C s n ((x_sta 6 2) C z) := x_to_at f76_5 C s n z
theorem f76_6 : x_fetch q_k76 6 = x_lda 7 2 := rfl
theorem t76_6 (C : xF) (s n : Nat) (z : xS) : x_to q_k76 C s (n + 1) 6 z = x_nx q_k76 C s n ((x_lda 7 2) C z) := x_to_at f76_6 C s n z
theorem f76_7 : x_fetch q_k76 7 = x_st (x_ifnonnull 14 10) := rfl
theorem t76_7 (C : xF) (s n : Nat) (z : xS) : x_to q_k76 C s (n + 1) 7 z = x_nx q_k76 C s n ((x_st (x_ifnonnull 14 10)) C z) := x_to_at f76_7 C s n z
theorem f76_10 : x_fetch q_k76 10 = x_st (x_push 11 (.int (-1))) := rfl
theorem t76_10 (C : xF) (s n : Nat) (z : xS) : x_to q_k76 C s (n + 1) 10 z = x_nx q_k76 C s n ((x_st (x_push 11 (.int (-1)))) C z) := x_to_at f76_10 C s n z
theorem f76_11 : x_fetch q_k76 11 = x_st (x_goto 18) := rfl
theorem t76_11 (C : xF) (s n : Nat) (z : xS) : x_to q_k76 C s (n + 1) 11 z = x_nx q_k76 C s n ((x_st (x_goto 18)) C z) := x_to_at f76_11 C s n z
theorem f76_14 : x_fetch q_k76 14 = x_lda 15 2 := rfl
theorem t76_14 (C : xF) (s n : Nat) (z : xS) : x_to q_k76 C s (n + 1) 14 z = x_nx q_k76 C s n ((x_lda 15 2) C z) := x_to_at f76_14 C s n z
theorem f76_15 : x_fetch q_k76 15 = x_gf 18 1 1 := rfl
theorem t76_15 (C : xF) (s n : Nat) (z : xS) : x_to q_k76 C s (n + 1) 15 z = x_nx q_k76 C s n ((x_gf 18 1 1) C z) := x_to_at f76_15 C s n z
theorem f76_18 : x_fetch q_k76 18 = x_ri (.int) := rfl
theorem t76_18 (C : xF) (s n : Nat) (z : xS) : x_to q_k76 C s (n + 1) 18 z = x_nx q_k76 C s n ((x_ri (.int)) C z) := x_to_at f76_18 C s n z
theorem f77_0 : x_fetch q_k77 0 = x_lda 1 0 := rfl
theorem t77_0 (C : xF) (s n : Nat) (z : xS) : x_to q_k77 C s (n + 1) 0 z = x_nx q_k77 C s n ((x_lda 1 0) C z) := x_to_at f77_0 C s n z
theorem f77_1 : x_fetch q_k77 1 = x_ldi 2 1 := rfl
theorem t77_1 (C : xF) (s n : Nat) (z : xS) : x_to q_k77 C s (n + 1) 1 z = x_nx q_k77 C s n ((x_ldi 2 1) C z) := x_to_at f77_1 C s n z
theorem f77_2 : x_fetch q_k77 2 = x_cv 5 81 2 0 := rfl
theorem t77_2 (C : xF) (s n : Nat) (z : xS) : x_to q_k77 C s (n + 1) 2 z = x_nx q_k77 C s n ((x_cv 5 81 2 0) C z) := x_to_at f77_2 C s n z
theorem f77_5 : x_fetch q_k77 5 = x_sta 6 3 := rfl
theorem t77_5 (C : xF) (s n : Nat) (z : xS) : x_to q_k77 C s (n + 1) 5 z = x_nx q_k77 C s n ((x_sta 6 3) C z) := x_to_at f77_5 C s n z
theorem f77_6 : x_fetch q_k77 6 = x_lda 7 3 := rfl
theorem t77_6 (C : xF) (s n : Nat) (z : xS) : x_to q_k77 C s (n + 1) 6 z = x_nx q_k77 C s n ((x_lda 7 3) C z) := x_to_at f77_6 C s n z
theorem f77_7 : x_fetch q_k77 7 = x_st (x_ifnull 22 10) := rfl
theorem t77_7 (C : xF) (s n : Nat) (z : xS) : x_to q_k77 C s (n + 1) 7 z = x_nx q_k77 C s n ((x_st (x_ifnull 22 10)) C z) := x_to_at f77_7 C s n z
theorem f77_10 : x_fetch q_k77 10 = x_ldi 11 2 := rfl
theorem t77_10 (C : xF) (s n : Nat) (z : xS) : x_to q_k77 C s (n + 1) 10 z = x_nx q_k77 C s n ((x_ldi 11 2) C z) := x_to_at f77_10 C s n z
theorem f77_11 : x_fetch q_k77 11 = x_st (x_iflt 22 14) := rfl
theorem t77_11 (C : xF) (s n : Nat) (z : xS) : x_to q_k77 C s (n + 1) 11 z = x_nx q_k77 C s n ((x_st (x_iflt 22 14)) C z) := x_to_at f77_11 C s n z
theorem f77_14 : x_fetch q_k77 14 = x_ldi 15 2 := rfl
theorem t77_14 (C : xF) (s n : Nat) (z : xS) : x_to q_k77 C s (n + 1) 14 z = x_nx q_k77 C s n ((x_ldi 15 2) C z) := x_to_at f77_14 C s n z
theorem f77_15 : x_fetch q_k77 15 = x_lda 16 0 := rfl
theorem t77_15 (C : xF) (s n : Nat) (z : xS) : x_to q_k77 C s (n + 1) 15 z = x_nx q_k77 C s n ((x_lda 16 0) C z) := x_to_at f77_15 C s n z
theorem f77_16 : x_fetch q_k77 16 = x_gf 19 0 2 := rfl
theorem t77_16 (C : xF) (s n : Nat) (z : xS) : x_to q_k77 C s (n + 1) 16 z = x_nx q_k77 C s n ((x_gf 19 0 2) C z) := x_to_at f77_16 C s n z
theorem f77_19 : x_fetch q_k77 19 = x_st (x_iclt 24 22) := rfl
theorem t77_19 (C : xF) (s n : Nat) (z : xS) : x_to q_k77 C s (n + 1) 19 z = x_nx q_k77 C s n ((x_st (x_iclt 24 22)) C z) := x_to_at f77_19 C s n z
theorem f77_22 : x_fetch q_k77 22 = x_st (x_push 23 (.int (0))) := rfl
theorem t77_22 (C : xF) (s n : Nat) (z : xS) : x_to q_k77 C s (n + 1) 22 z = x_nx q_k77 C s n ((x_st (x_push 23 (.int (0)))) C z) := x_to_at f77_22 C s n z
theorem f77_23 : x_fetch q_k77 23 = x_ri (.boolean) := rfl
theorem t77_23 (C : xF) (s n : Nat) (z : xS) : x_to q_k77 C s (n + 1) 23 z = x_nx q_k77 C s n ((x_ri (.boolean)) C z) := x_to_at f77_23 C s n z
theorem f77_24 : x_fetch q_k77 24 = x_lda 25 3 := rfl
theorem t77_24 (C : xF) (s n : Nat) (z : xS) : x_to q_k77 C s (n + 1) 24 z = x_nx q_k77 C s n ((x_lda 25 3) C z) := x_to_at f77_24 C s n z
theorem f77_25 : x_fetch q_k77 25 = x_gf 28 1 2 := rfl
theorem t77_25 (C : xF) (s n : Nat) (z : xS) : x_to q_k77 C s (n + 1) 25 z = x_nx q_k77 C s n ((x_gf 28 1 2) C z) := x_to_at f77_25 C s n z
theorem f77_28 : x_fetch q_k77 28 = x_ldi 29 2 := rfl
theorem t77_28 (C : xF) (s n : Nat) (z : xS) : x_to q_k77 C s (n + 1) 28 z = x_nx q_k77 C s n ((x_ldi 29 2) C z) := x_to_at f77_28 C s n z
theorem f77_29 : x_fetch q_k77 29 = x_st (x_bin 30 (fun a b => a >>> (b &&& 31))) := rfl
theorem t77_29 (C : xF) (s n : Nat) (z : xS) : x_to q_k77 C s (n + 1) 29 z = x_nx q_k77 C s n ((x_st (x_bin 30 (fun a b => a >>> (b &&& 31)))) C z) := x_to_at f77_29 C s n z
theorem f77_30 : x_fetch q_k77 30 = x_st (x_push 31 (.int (1))) := rfl
theorem t77_30 (C : xF) (s n : Nat) (z : xS) : x_to q_k77 C s (n + 1) 30 z = x_nx q_k77 C s n ((x_st (x_push 31 (.int (1)))) C z) := x_to_at f77_30 C s n z
theorem f77_31 : x_fetch q_k77 31 = x_st (x_bin 32 (fun a b => a &&& b)) := rfl
theorem t77_31 (C : xF) (s n : Nat) (z : xS) : x_to q_k77 C s (n + 1) 31 z = x_nx q_k77 C s n ((x_st (x_bin 32 (fun a b => a &&& b))) C z) := x_to_at f77_31 C s n z
theorem f77_32 : x_fetch q_k77 32 = x_st (x_push 33 (.int (1))) := rfl
theorem t77_32 (C : xF) (s n : Nat) (z : xS) : x_to q_k77 C s (n + 1) 32 z = x_nx q_k77 C s n ((x_st (x_push 33 (.int (1)))) C z) := x_to_at f77_32 C s n z
theorem f77_33 : x_fetch q_k77 33 = x_st (x_icne 40 36) := rfl
theorem t77_33 (C : xF) (s n : Nat) (z : xS) : x_to q_k77 C s (n + 1) 33 z = x_nx q_k77 C s n ((x_st (x_icne 40 36)) C z) := x_to_at f77_33 C s n z
theorem f77_36 : x_fetch q_k77 36 = x_st (x_push 37 (.int (1))) := rfl
theorem t77_36 (C : xF) (s n : Nat) (z : xS) : x_to q_k77 C s (n + 1) 36 z = x_nx q_k77 C s n ((x_st (x_push 37 (.int (1)))) C z) := x_to_at f77_36 C s n z
theorem f77_37 : x_fetch q_k77 37 = x_st (x_goto 41) := rfl
theorem t77_37 (C : xF) (s n : Nat) (z : xS) : x_to q_k77 C s (n + 1) 37 z = x_nx q_k77 C s n ((x_st (x_goto 41)) C z) := x_to_at f77_37 C s n z
theorem f77_40 : x_fetch q_k77 40 = x_st (x_push 41 (.int (0))) := rfl
theorem t77_40 (C : xF) (s n : Nat) (z : xS) : x_to q_k77 C s (n + 1) 40 z = x_nx q_k77 C s n ((x_st (x_push 41 (.int (0)))) C z) := x_to_at f77_40 C s n z
theorem f77_41 : x_fetch q_k77 41 = x_ri (.boolean) := rfl
theorem t77_41 (C : xF) (s n : Nat) (z : xS) : x_to q_k77 C s (n + 1) 41 z = x_nx q_k77 C s n ((x_ri (.boolean)) C z) := x_to_at f77_41 C s n z
theorem f78_0 : x_fetch q_k78 0 = x_st (x_push 1 (.int (0))) := rfl
theorem t78_0 (C : xF) (s n : Nat) (z : xS) : x_to q_k78 C s (n + 1) 0 z = x_nx q_k78 C s n ((x_st (x_push 1 (.int (0)))) C z) := x_to_at f78_0 C s n z
theorem f78_1 : x_fetch q_k78 1 = x_sti 2 1 := rfl
theorem t78_1 (C : xF) (s n : Nat) (z : xS) : x_to q_k78 C s (n + 1) 1 z = x_nx q_k78 C s n ((x_sti 2 1) C z) := x_to_at f78_1 C s n z
theorem f78_2 : x_fetch q_k78 2 = x_ldi 3 1 := rfl
theorem t78_2 (C : xF) (s n : Nat) (z : xS) : x_to q_k78 C s (n + 1) 2 z = x_nx q_k78 C s n ((x_ldi 3 1) C z) := x_to_at f78_2 C s n z
theorem f78_3 : x_fetch q_k78 3 = x_lda 4 0 := rfl
theorem t78_3 (C : xF) (s n : Nat) (z : xS) : x_to q_k78 C s (n + 1) 3 z = x_nx q_k78 C s n ((x_lda 4 0) C z) := x_to_at f78_3 C s n z
theorem f78_4 : x_fetch q_k78 4 = x_gf 7 0 2 := rfl
theorem t78_4 (C : xF) (s n : Nat) (z : xS) : x_to q_k78 C s (n + 1) 4 z = x_nx q_k78 C s n ((x_gf 7 0 2) C z) := x_to_at f78_4 C s n z
theorem f78_7 : x_fetch q_k78 7 = x_st (x_icge 38 10) := rfl
theorem t78_7 (C : xF) (s n : Nat) (z : xS) : x_to q_k78 C s (n + 1) 7 z = x_nx q_k78 C s n ((x_st (x_icge 38 10)) C z) := x_to_at f78_7 C s n z
theorem f78_10 : x_fetch q_k78 10 = x_lda 11 0 := rfl
theorem t78_10 (C : xF) (s n : Nat) (z : xS) : x_to q_k78 C s (n + 1) 10 z = x_nx q_k78 C s n ((x_lda 11 0) C z) := x_to_at f78_10 C s n z
theorem f78_11 : x_fetch q_k78 11 = x_ldi 12 1 := rfl
theorem t78_11 (C : xF) (s n : Nat) (z : xS) : x_to q_k78 C s (n + 1) 11 z = x_nx q_k78 C s n ((x_ldi 12 1) C z) := x_to_at f78_11 C s n z
theorem f78_12 : x_fetch q_k78 12 = x_cv 15 81 2 0 := rfl
theorem t78_12 (C : xF) (s n : Nat) (z : xS) : x_to q_k78 C s (n + 1) 12 z = x_nx q_k78 C s n ((x_cv 15 81 2 0) C z) := x_to_at f78_12 C s n z
theorem f78_15 : x_fetch q_k78 15 = x_sta 16 2 := rfl
theorem t78_15 (C : xF) (s n : Nat) (z : xS) : x_to q_k78 C s (n + 1) 15 z = x_nx q_k78 C s n ((x_sta 16 2) C z) := x_to_at f78_15 C s n z
theorem f78_16 : x_fetch q_k78 16 = x_lda 17 2 := rfl
theorem t78_16 (C : xF) (s n : Nat) (z : xS) : x_to q_k78 C s (n + 1) 16 z = x_nx q_k78 C s n ((x_lda 17 2) C z) := x_to_at f78_16 C s n z
theorem f78_17 : x_fetch q_k78 17 = x_st (x_ifnull 32 20) := rfl
theorem t78_17 (C : xF) (s n : Nat) (z : xS) : x_to q_k78 C s (n + 1) 17 z = x_nx q_k78 C s n ((x_st (x_ifnull 32 20)) C z) := x_to_at f78_17 C s n z
theorem f78_20 : x_fetch q_k78 20 = x_lda 21 2 := rfl
theorem t78_20 (C : xF) (s n : Nat) (z : xS) : x_to q_k78 C s (n + 1) 20 z = x_nx q_k78 C s n ((x_lda 21 2) C z) := x_to_at f78_20 C s n z
theorem f78_21 : x_fetch q_k78 21 = x_gf 24 1 0 := rfl
theorem t78_21 (C : xF) (s n : Nat) (z : xS) : x_to q_k78 C s (n + 1) 21 z = x_nx q_k78 C s n ((x_gf 24 1 0) C z) := x_to_at f78_21 C s n z
theorem f78_24 : x_fetch q_k78 24 = x_gf 27 4 3 := rfl
theorem t78_24 (C : xF) (s n : Nat) (z : xS) : x_to q_k78 C s (n + 1) 24 z = x_nx q_k78 C s n ((x_gf 27 4 3) C z) := x_to_at f78_24 C s n z
theorem f78_27 : x_fetch q_k78 27 = x_st (x_ifne 32 30) := rfl
theorem t78_27 (C : xF) (s n : Nat) (z : xS) : x_to q_k78 C s (n + 1) 27 z = x_nx q_k78 C s n ((x_st (x_ifne 32 30)) C z) := x_to_at f78_27 C s n z
theorem f78_30 : x_fetch q_k78 30 = x_ldi 31 1 := rfl
theorem t78_30 (C : xF) (s n : Nat) (z : xS) : x_to q_k78 C s (n + 1) 30 z = x_nx q_k78 C s n ((x_ldi 31 1) C z) := x_to_at f78_30 C s n z
theorem f78_31 : x_fetch q_k78 31 = x_ri (.int) := rfl
theorem t78_31 (C : xF) (s n : Nat) (z : xS) : x_to q_k78 C s (n + 1) 31 z = x_nx q_k78 C s n ((x_ri (.int)) C z) := x_to_at f78_31 C s n z
theorem f78_32 : x_fetch q_k78 32 = x_iinc 35 1 (1) := rfl
theorem t78_32 (C : xF) (s n : Nat) (z : xS) : x_to q_k78 C s (n + 1) 32 z = x_nx q_k78 C s n ((x_iinc 35 1 (1)) C z) := x_to_at f78_32 C s n z
theorem f78_35 : x_fetch q_k78 35 = x_st (x_goto 2) := rfl
theorem t78_35 (C : xF) (s n : Nat) (z : xS) : x_to q_k78 C s (n + 1) 35 z = x_nx q_k78 C s n ((x_st (x_goto 2)) C z) := x_to_at f78_35 C s n z
theorem f78_38 : x_fetch q_k78 38 = x_st (x_push 39 (.int (-1))) := rfl
theorem t78_38 (C : xF) (s n : Nat) (z : xS) : x_to q_k78 C s (n + 1) 38 z = x_nx q_k78 C s n ((x_st (x_push 39 (.int (-1)))) C z) := x_to_at f78_38 C s n z
theorem f78_39 : x_fetch q_k78 39 = x_ri (.int) := rfl
theorem t78_39 (C : xF) (s n : Nat) (z : xS) : x_to q_k78 C s (n + 1) 39 z = x_nx q_k78 C s n ((x_ri (.int)) C z) := x_to_at f78_39 C s n z
theorem f79_0 : x_fetch q_k79 0 = x_lda 1 0 := rfl
theorem t79_0 (C : xF) (s n : Nat) (z : xS) : x_to q_k79 C s (n + 1) 0 z = x_nx q_k79 C s n ((x_lda 1 0) C z) := x_to_at f79_0 C s n z
theorem f79_1 : x_fetch q_k79 1 = x_ldi 2 1 := rfl
theorem t79_1 (C : xF) (s n : Nat) (z : xS) : x_to q_k79 C s (n + 1) 1 z = x_nx q_k79 C s n ((x_ldi 2 1) C z) := x_to_at f79_1 C s n z
theorem f79_2 : x_fetch q_k79 2 = x_cv 5 81 2 0 := rfl
theorem t79_2 (C : xF) (s n : Nat) (z : xS) : x_to q_k79 C s (n + 1) 2 z = x_nx q_k79 C s n ((x_cv 5 81 2 0) C z) := x_to_at f79_2 C s n z
theorem f79_5 : x_fetch q_k79 5 = x_sta 6 2 := rfl
theorem t79_5 (C : xF) (s n : Nat) (z : xS) : x_to q_k79 C s (n + 1) 5 z = x_nx q_k79 C s n ((x_sta 6 2) C z) := x_to_at f79_5 C s n z
theorem f79_6 : x_fetch q_k79 6 = x_lda 7 2 := rfl
theorem t79_6 (C : xF) (s n : Nat) (z : xS) : x_to q_k79 C s (n + 1) 6 z = x_nx q_k79 C s n ((x_lda 7 2) C z) := x_to_at f79_6 C s n z
theorem f79_7 : x_fetch q_k79 7 = x_st (x_ifnull 24 10) := rfl
theorem t79_7 (C : xF) (s n : Nat) (z : xS) : x_to q_k79 C s (n + 1) 7 z = x_nx q_k79 C s n ((x_st (x_ifnull 24 10)) C z) := x_to_at f79_7 C s n z
theorem f79_10 : x_fetch q_k79 10 = x_lda 11 2 := rfl
theorem t79_10 (C : xF) (s n : Nat) (z : xS) : x_to q_k79 C s (n + 1) 10 z = x_nx q_k79 C s n ((x_lda 11 2) C z) := x_to_at f79_10 C s n z
theorem f79_11 : x_fetch q_k79 11 = x_gf 14 1 0 := rfl
theorem t79_11 (C : xF) (s n : Nat) (z : xS) : x_to q_k79 C s (n + 1) 11 z = x_nx q_k79 C s n ((x_gf 14 1 0) C z) := x_to_at f79_11 C s n z
theorem f79_14 : x_fetch q_k79 14 = x_cv 17 24 1 4 := rfl
theorem t79_14 (C : xF) (s n : Nat) (z : xS) : x_to q_k79 C s (n + 1) 14 z = x_nx q_k79 C s n ((x_cv 17 24 1 4) C z) := x_to_at f79_14 C s n z
theorem f79_17 : x_fetch q_k79 17 = x_st (x_ifeq 24 20) := rfl
theorem t79_17 (C : xF) (s n : Nat) (z : xS) : x_to q_k79 C s (n + 1) 17 z = x_nx q_k79 C s n ((x_st (x_ifeq 24 20)) C z) := x_to_at f79_17 C s n z
theorem f79_20 : x_fetch q_k79 20 = x_st (x_push 21 (.int (1))) := rfl
theorem t79_20 (C : xF) (s n : Nat) (z : xS) : x_to q_k79 C s (n + 1) 20 z = x_nx q_k79 C s n ((x_st (x_push 21 (.int (1)))) C z) := x_to_at f79_20 C s n z
theorem f79_21 : x_fetch q_k79 21 = x_st (x_goto 25) := rfl
theorem t79_21 (C : xF) (s n : Nat) (z : xS) : x_to q_k79 C s (n + 1) 21 z = x_nx q_k79 C s n ((x_st (x_goto 25)) C z) := x_to_at f79_21 C s n z
theorem f79_24 : x_fetch q_k79 24 = x_st (x_push 25 (.int (0))) := rfl
theorem t79_24 (C : xF) (s n : Nat) (z : xS) : x_to q_k79 C s (n + 1) 24 z = x_nx q_k79 C s n ((x_st (x_push 25 (.int (0)))) C z) := x_to_at f79_24 C s n z
theorem f79_25 : x_fetch q_k79 25 = x_ri (.boolean) := rfl
theorem t79_25 (C : xF) (s n : Nat) (z : xS) : x_to q_k79 C s (n + 1) 25 z = x_nx q_k79 C s n ((x_ri (.boolean)) C z) := x_to_at f79_25 C s n z
theorem f80_0 : x_fetch q_k80 0 = x_lda 1 0 := rfl
theorem t80_0 (C : xF) (s n : Nat) (z : xS) : x_to q_k80 C s (n + 1) 0 z = x_nx q_k80 C s n ((x_lda 1 0) C z) := x_to_at f80_0 C s n z
theorem f80_1 : x_fetch q_k80 1 = x_gf 4 0 0 := rfl
theorem t80_1 (C : xF) (s n : Nat) (z : xS) : x_to q_k80 C s (n + 1) 1 z = x_nx q_k80 C s n ((x_gf 4 0 0) C z) := x_to_at f80_1 C s n z
theorem f80_4 : x_fetch q_k80 4 = x_gf 7 3 2 := rfl
theorem t80_4 (C : xF) (s n : Nat) (z : xS) : x_to q_k80 C s (n + 1) 4 z = x_nx q_k80 C s n ((x_gf 7 3 2) C z) := x_to_at f80_4 C s n z
theorem f80_7 : x_fetch q_k80 7 = x_ri (.int) := rfl
theorem t80_7 (C : xF) (s n : Nat) (z : xS) : x_to q_k80 C s (n + 1) 7 z = x_nx q_k80 C s n ((x_ri (.int)) C z) := x_to_at f80_7 C s n z
theorem f81_0 : x_fetch q_k81 0 = x_ldi 1 1 := rfl
theorem t81_0 (C : xF) (s n : Nat) (z : xS) : x_to q_k81 C s (n + 1) 0 z = x_nx q_k81 C s n ((x_ldi 1 1) C z) := x_to_at f81_0 C s n z
theorem f81_1 : x_fetch q_k81 1 = x_st (x_iflt 12 4) := rfl
theorem t81_1 (C : xF) (s n : Nat) (z : xS) : x_to q_k81 C s (n + 1) 1 z = x_nx q_k81 C s n ((x_st (x_iflt 12 4)) C z) := x_to_at f81_1 C s n z
theorem f81_4 : x_fetch q_k81 4 = x_ldi 5 1 := rfl
theorem t81_4 (C : xF) (s n : Nat) (z : xS) : x_to q_k81 C s (n + 1) 4 z = x_nx q_k81 C s n ((x_ldi 5 1) C z) := x_to_at f81_4 C s n z
theorem f81_5 : x_fetch q_k81 5 = x_lda 6 0 := rfl
theorem t81_5 (C : xF) (s n : Nat) (z : xS) : x_to q_k81 C s (n + 1) 5 z = x_nx q_k81 C s n ((x_lda 6 0) C z) := x_to_at f81_5 C s n z
theorem f81_6 : x_fetch q_k81 6 = x_gf 9 0 2 := rfl
theorem t81_6 (C : xF) (s n : Nat) (z : xS) : x_to q_k81 C s (n + 1) 6 z = x_nx q_k81 C s n ((x_gf 9 0 2) C z) := x_to_at f81_6 C s n z
theorem f81_9 : x_fetch q_k81 9 = x_st (x_iclt 16 12) := rfl
theorem t81_9 (C : xF) (s n : Nat) (z : xS) : x_to q_k81 C s (n + 1) 9 z = x_nx q_k81 C s n ((x_st (x_iclt 16 12)) C z) := x_to_at f81_9 C s n z
theorem f81_12 : x_fetch q_k81 12 = x_st (x_push 13 .null) := rfl
theorem t81_12 (C : xF) (s n : Nat) (z : xS) : x_to q_k81 C s (n + 1) 12 z = x_nx q_k81 C s n ((x_st (x_push 13 .null)) C z) := x_to_at f81_12 C s n z
theorem f81_13 : x_fetch q_k81 13 = x_st (x_goto 22) := rfl
theorem t81_13 (C : xF) (s n : Nat) (z : xS) : x_to q_k81 C s (n + 1) 13 z = x_nx q_k81 C s n ((x_st (x_goto 22)) C z) := x_to_at f81_13 C s n z
theorem f81_16 : x_fetch q_k81 16 = x_lda 17 0 := rfl
theorem t81_16 (C : xF) (s n : Nat) (z : xS) : x_to q_k81 C s (n + 1) 16 z = x_nx q_k81 C s n ((x_lda 17 0) C z) := x_to_at f81_16 C s n z
theorem f81_17 : x_fetch q_k81 17 = x_gf 20 0 1 := rfl
theorem t81_17 (C : xF) (s n : Nat) (z : xS) : x_to q_k81 C s (n + 1) 17 z = x_nx q_k81 C s n ((x_gf 20 0 1) C z) := x_to_at f81_17 C s n z
theorem f81_20 : x_fetch q_k81 20 = x_ldi 21 1 := rfl
theorem t81_20 (C : xF) (s n : Nat) (z : xS) : x_to q_k81 C s (n + 1) 20 z = x_nx q_k81 C s n ((x_ldi 21 1) C z) := x_to_at f81_20 C s n z
theorem f81_21 : x_fetch q_k81 21 = x_aldr 22 4 := rfl
theorem t81_21 (C : xF) (s n : Nat) (z : xS) : x_to q_k81 C s (n + 1) 21 z = x_nx q_k81 C s n ((x_aldr 22 4) C z) := x_to_at f81_21 C s n z
theorem f81_22 : x_fetch q_k81 22 = x_ra := rfl
theorem t81_22 (C : xF) (s n : Nat) (z : xS) : x_to q_k81 C s (n + 1) 22 z = x_nx q_k81 C s n ((x_ra) C z) := x_to_at f81_22 C s n z
theorem f150_0 : x_fetch q_k150 0 = x_lda 1 0 := rfl
theorem t150_0 (C : xF) (s n : Nat) (z : xS) : x_to q_k150 C s (n + 1) 0 z = x_nx q_k150 C s n ((x_lda 1 0) C z) := x_to_at f150_0 C s n z
theorem f150_1 : x_fetch q_k150 1 = x_gfV 4 13 0 := rfl
theorem t150_1 (C : xF) (s n : Nat) (z : xS) : x_to q_k150 C s (n + 1) 1 z = x_nx q_k150 C s n ((x_gfV 4 13 0) C z) := x_to_at f150_1 C s n z
theorem f150_4 : x_fetch q_k150 4 = x_alnH 5 6 := rfl
theorem t150_4 (C : xF) (s n : Nat) (z : xS) : x_to q_k150 C s (n + 1) 4 z = x_nx q_k150 C s n ((x_alnH 5 6) C z) := x_to_at f150_4 C s n z
theorem f150_5 : x_fetch q_k150 5 = x_lda 6 0 := rfl
theorem t150_5 (C : xF) (s n : Nat) (z : xS) : x_to q_k150 C s (n + 1) 5 z = x_nx q_k150 C s n ((x_lda 6 0) C z) := x_to_at f150_5 C s n z
theorem f150_6 : x_fetch q_k150 6 = x_cvH 9 151 1 13 := rfl
theorem t150_6 (C : xF) (s n : Nat) (z : xS) : x_to q_k150 C s (n + 1) 6 z = x_nx q_k150 C s n ((x_cvH 9 151 1 13) C z) := x_to_at f150_6 C s n z
theorem f150_9 : x_fetch q_k150 9 = x_st (x_bin 10 (fun a b => a >>> (b &&& 31))) := rfl
theorem t150_9 (C : xF) (s n : Nat) (z : xS) : x_to q_k150 C s (n + 1) 9 z = x_nx q_k150 C s n ((x_st (x_bin 10 (fun a b => a >>> (b &&& 31)))) C z) := x_to_at f150_9 C s n z
theorem f150_10 : x_fetch q_k150 10 = x_ri (.int) := rfl
theorem t150_10 (C : xF) (s n : Nat) (z : xS) : x_to q_k150 C s (n + 1) 10 z = x_nx q_k150 C s n ((x_ri (.int)) C z) := x_to_at f150_10 C s n z
theorem f151_0 : x_fetch q_k151 0 = x_st (x_push 3 (.int (1))) := rfl
theorem t151_0 (C : xF) (s n : Nat) (z : xS) : x_to q_k151 C s (n + 1) 0 z = x_nx q_k151 C s n ((x_st (x_push 3 (.int (1)))) C z) := x_to_at f151_0 C s n z
theorem f151_3 : x_fetch q_k151 3 = x_st (x_ifeq 13 6) := rfl
theorem t151_3 (C : xF) (s n : Nat) (z : xS) : x_to q_k151 C s (n + 1) 3 z = x_nx q_k151 C s n ((x_st (x_ifeq 13 6)) C z) := x_to_at f151_3 C s n z
theorem f151_6 : x_fetch q_k151 6 = x_lda 7 0 := rfl
theorem t151_6 (C : xF) (s n : Nat) (z : xS) : x_to q_k151 C s (n + 1) 6 z = x_nx q_k151 C s n ((x_lda 7 0) C z) := x_to_at f151_6 C s n z
theorem f151_7 : x_fetch q_k151 7 = x_gfC 10 13 1 := rfl
theorem t151_7 (C : xF) (s n : Nat) (z : xS) : x_to q_k151 C s (n + 1) 7 z = x_nx q_k151 C s n ((x_gfC 10 13 1) C z) := x_to_at f151_7 C s n z
theorem f151_10 : x_fetch q_k151 10 = x_st (x_goto 14) := rfl
theorem t151_10 (C : xF) (s n : Nat) (z : xS) : x_to q_k151 C s (n + 1) 10 z = x_nx q_k151 C s n ((x_st (x_goto 14)) C z) := x_to_at f151_10 C s n z
theorem f151_13 : x_fetch q_k151 13 = x_st (x_push 14 (.int (1))) := rfl
theorem t151_13 (C : xF) (s n : Nat) (z : xS) : x_to q_k151 C s (n + 1) 13 z = x_nx q_k151 C s n ((x_st (x_push 14 (.int (1)))) C z) := x_to_at f151_13 C s n z
theorem f151_14 : x_fetch q_k151 14 = x_ri (.byte) := rfl
theorem t151_14 (C : xF) (s n : Nat) (z : xS) : x_to q_k151 C s (n + 1) 14 z = x_nx q_k151 C s n ((x_ri (.byte)) C z) := x_to_at f151_14 C s n z
theorem f152_0 : x_fetch q_k152 0 = x_lda 1 0 := rfl
theorem t152_0 (C : xF) (s n : Nat) (z : xS) : x_to q_k152 C s (n + 1) 0 z = x_nx q_k152 C s n ((x_lda 1 0) C z) := x_to_at f152_0 C s n z
theorem f152_1 : x_fetch q_k152 1 = x_cvH 4 153 1 13 := rfl
theorem t152_1 (C : xF) (s n : Nat) (z : xS) : x_to q_k152 C s (n + 1) 1 z = x_nx q_k152 C s n ((x_cvH 4 153 1 13) C z) := x_to_at f152_1 C s n z
theorem f152_4 : x_fetch q_k152 4 = x_st (x_ifeq 16 7) := rfl
theorem t152_4 (C : xF) (s n : Nat) (z : xS) : x_to q_k152 C s (n + 1) 4 z = x_nx q_k152 C s n ((x_st (x_ifeq 16 7)) C z) := x_to_at f152_4 C s n z
theorem f152_7 : x_fetch q_k152 7 = x_lda 8 0 := rfl
theorem t152_7 (C : xF) (s n : Nat) (z : xS) : x_to q_k152 C s (n + 1) 7 z = x_nx q_k152 C s n ((x_lda 8 0) C z) := x_to_at f152_7 C s n z
theorem f152_8 : x_fetch q_k152 8 = x_gfV 11 13 0 := rfl
theorem t152_8 (C : xF) (s n : Nat) (z : xS) : x_to q_k152 C s (n + 1) 8 z = x_nx q_k152 C s n ((x_gfV 11 13 0) C z) := x_to_at f152_8 C s n z
theorem f152_11 : x_fetch q_k152 11 = x_ldi 12 1 := rfl
theorem t152_11 (C : xF) (s n : Nat) (z : xS) : x_to q_k152 C s (n + 1) 11 z = x_nx q_k152 C s n ((x_ldi 12 1) C z) := x_to_at f152_11 C s n z
theorem f152_12 : x_fetch q_k152 12 = x_cl_ 15 154 2 := rfl
theorem t152_12 (C : xF) (s n : Nat) (z : xS) : x_to q_k152 C s (n + 1) 12 z = x_nx q_k152 C s n ((x_cl_ 15 154 2) C z) := x_to_at f152_12 C s n z
theorem f152_15 : x_fetch q_k152 15 = x_ri (.char) := rfl
theorem t152_15 (C : xF) (s n : Nat) (z : xS) : x_to q_k152 C s (n + 1) 15 z = x_nx q_k152 C s n ((x_ri (.char)) C z) := x_to_at f152_15 C s n z
theorem f152_16 : x_fetch q_k152 16 = x_lda 17 0 := rfl
theorem t152_16 (C : xF) (s n : Nat) (z : xS) : x_to q_k152 C s (n + 1) 16 z = x_nx q_k152 C s n ((x_lda 17 0) C z) := x_to_at f152_16 C s n z
theorem f152_17 : x_fetch q_k152 17 = x_gfV 20 13 0 := rfl
theorem t152_17 (C : xF) (s n : Nat) (z : xS) : x_to q_k152 C s (n + 1) 17 z = x_nx q_k152 C s n ((x_gfV 20 13 0) C z) := x_to_at f152_17 C s n z
theorem f152_20 : x_fetch q_k152 20 = x_ldi 21 1 := rfl
theorem t152_20 (C : xF) (s n : Nat) (z : xS) : x_to q_k152 C s (n + 1) 20 z = x_nx q_k152 C s n ((x_ldi 21 1) C z) := x_to_at f152_20 C s n z
theorem f152_21 : x_fetch q_k152 21 = fun _ _ => none := rfl
theorem t152_21 (C : xF) (s n : Nat) (z : xS) : x_to q_k152 C s (n + 1) 21 z = x_nx q_k152 C s n ((fun _ _ => none) C z) := x_to_at f152_21 C s n z
theorem f152_24 : x_fetch q_k152 24 = x_ri (.char) := rfl
theorem t152_24 (C : xF) (s n : Nat) (z : xS) : x_to q_k152 C s (n + 1) 24 z = x_nx q_k152 C s n ((x_ri (.char)) C z) := x_to_at f152_24 C s n z
theorem f153_0 : x_fetch q_k153 0 = x_st (x_push 3 (.int (1))) := rfl
theorem t153_0 (C : xF) (s n : Nat) (z : xS) : x_to q_k153 C s (n + 1) 0 z = x_nx q_k153 C s n ((x_st (x_push 3 (.int (1)))) C z) := x_to_at f153_0 C s n z
theorem f153_3 : x_fetch q_k153 3 = x_st (x_ifeq 17 6) := rfl
theorem t153_3 (C : xF) (s n : Nat) (z : xS) : x_to q_k153 C s (n + 1) 3 z = x_nx q_k153 C s n ((x_st (x_ifeq 17 6)) C z) := x_to_at f153_3 C s n z
theorem f153_6 : x_fetch q_k153 6 = x_lda 7 0 := rfl
theorem t153_6 (C : xF) (s n : Nat) (z : xS) : x_to q_k153 C s (n + 1) 6 z = x_nx q_k153 C s n ((x_lda 7 0) C z) := x_to_at f153_6 C s n z
theorem f153_7 : x_fetch q_k153 7 = x_gfC 10 13 1 := rfl
theorem t153_7 (C : xF) (s n : Nat) (z : xS) : x_to q_k153 C s (n + 1) 7 z = x_nx q_k153 C s n ((x_gfC 10 13 1) C z) := x_to_at f153_7 C s n z
theorem f153_10 : x_fetch q_k153 10 = x_st (x_ifne 17 13) := rfl
theorem t153_10 (C : xF) (s n : Nat) (z : xS) : x_to q_k153 C s (n + 1) 10 z = x_nx q_k153 C s n ((x_st (x_ifne 17 13)) C z) := x_to_at f153_10 C s n z
theorem f153_13 : x_fetch q_k153 13 = x_st (x_push 14 (.int (1))) := rfl
theorem t153_13 (C : xF) (s n : Nat) (z : xS) : x_to q_k153 C s (n + 1) 13 z = x_nx q_k153 C s n ((x_st (x_push 14 (.int (1)))) C z) := x_to_at f153_13 C s n z
theorem f153_14 : x_fetch q_k153 14 = x_st (x_goto 18) := rfl
theorem t153_14 (C : xF) (s n : Nat) (z : xS) : x_to q_k153 C s (n + 1) 14 z = x_nx q_k153 C s n ((x_st (x_goto 18)) C z) := x_to_at f153_14 C s n z
theorem f153_17 : x_fetch q_k153 17 = x_st (x_push 18 (.int (0))) := rfl
theorem t153_17 (C : xF) (s n : Nat) (z : xS) : x_to q_k153 C s (n + 1) 17 z = x_nx q_k153 C s n ((x_st (x_push 18 (.int (0)))) C z) := x_to_at f153_17 C s n z
theorem f153_18 : x_fetch q_k153 18 = x_ri (.boolean) := rfl
theorem t153_18 (C : xF) (s n : Nat) (z : xS) : x_to q_k153 C s (n + 1) 18 z = x_nx q_k153 C s n ((x_ri (.boolean)) C z) := x_to_at f153_18 C s n z
theorem f154_0 : x_fetch q_k154 0 = x_ldi 1 1 := rfl
theorem t154_0 (C : xF) (s n : Nat) (z : xS) : x_to q_k154 C s (n + 1) 0 z = x_nx q_k154 C s n ((x_ldi 1 1) C z) := x_to_at f154_0 C s n z
theorem f154_1 : x_fetch q_k154 1 = x_lda 2 0 := rfl
theorem t154_1 (C : xF) (s n : Nat) (z : xS) : x_to q_k154 C s (n + 1) 1 z = x_nx q_k154 C s n ((x_lda 2 0) C z) := x_to_at f154_1 C s n z
theorem f154_2 : x_fetch q_k154 2 = x_alnH 3 6 := rfl
theorem t154_2 (C : xF) (s n : Nat) (z : xS) : x_to q_k154 C s (n + 1) 2 z = x_nx q_k154 C s n ((x_alnH 3 6) C z) := x_to_at f154_2 C s n z
theorem f154_3 : x_fetch q_k154 3 = x_cl_ 6 155 2 := rfl
theorem t154_3 (C : xF) (s n : Nat) (z : xS) : x_to q_k154 C s (n + 1) 3 z = x_nx q_k154 C s n ((x_cl_ 6 155 2) C z) := x_to_at f154_3 C s n z
theorem f154_6 : x_fetch q_k154 6 = x_lda 7 0 := rfl
theorem t154_6 (C : xF) (s n : Nat) (z : xS) : x_to q_k154 C s (n + 1) 6 z = x_nx q_k154 C s n ((x_lda 7 0) C z) := x_to_at f154_6 C s n z
theorem f154_7 : x_fetch q_k154 7 = x_ldi 8 1 := rfl
theorem t154_7 (C : xF) (s n : Nat) (z : xS) : x_to q_k154 C s (n + 1) 7 z = x_nx q_k154 C s n ((x_ldi 8 1) C z) := x_to_at f154_7 C s n z
theorem f154_8 : x_fetch q_k154 8 = x_aldH 9 5 := rfl
theorem t154_8 (C : xF) (s n : Nat) (z : xS) : x_to q_k154 C s (n + 1) 8 z = x_nx q_k154 C s n ((x_aldH 9 5) C z) := x_to_at f154_8 C s n z
theorem f154_9 : x_fetch q_k154 9 = x_st (x_push 12 (.int (255))) := rfl
theorem t154_9 (C : xF) (s n : Nat) (z : xS) : x_to q_k154 C s (n + 1) 9 z = x_nx q_k154 C s n ((x_st (x_push 12 (.int (255)))) C z) := x_to_at f154_9 C s n z
theorem f154_12 : x_fetch q_k154 12 = x_st (x_bin 13 (fun a b => a &&& b)) := rfl
theorem t154_12 (C : xF) (s n : Nat) (z : xS) : x_to q_k154 C s (n + 1) 12 z = x_nx q_k154 C s n ((x_st (x_bin 13 (fun a b => a &&& b))) C z) := x_to_at f154_12 C s n z
theorem f154_13 : x_fetch q_k154 13 = x_st (x_un 14 (fun a => .int (a.toUInt32 % 65536).toInt32)) := rfl
theorem t154_13 (C : xF) (s n : Nat) (z : xS) : x_to q_k154 C s (n + 1) 13 z = x_nx q_k154 C s n ((x_st (x_un 14 (fun a => .int (a.toUInt32 % 65536).toInt32))) C z) := x_to_at f154_13 C s n z
theorem f154_14 : x_fetch q_k154 14 = x_ri (.char) := rfl
theorem t154_14 (C : xF) (s n : Nat) (z : xS) : x_to q_k154 C s (n + 1) 14 z = x_nx q_k154 C s n ((x_ri (.char)) C z) := x_to_at f154_14 C s n z
theorem f155_0 : x_fetch q_k155 0 = x_ldi 1 0 := rfl
theorem t155_0 (C : xF) (s n : Nat) (z : xS) : x_to q_k155 C s (n + 1) 0 z = x_nx q_k155 C s n ((x_ldi 1 0) C z) := x_to_at f155_0 C s n z
theorem f155_1 : x_fetch q_k155 1 = x_ldi 2 1 := rfl
theorem t155_1 (C : xF) (s n : Nat) (z : xS) : x_to q_k155 C s (n + 1) 1 z = x_nx q_k155 C s n ((x_ldi 2 1) C z) := x_to_at f155_1 C s n z
theorem f155_2 : x_fetch q_k155 2 = x_st (x_push 5 (.retAddr 0)) := rfl
theorem t155_2 (C : xF) (s n : Nat) (z : xS) : x_to q_k155 C s (n + 1) 2 z = x_nx q_k155 C s n ((x_st (x_push 5 (.retAddr 0))) C z) := x_to_at f155_2 C s n z
theorem f155_5 : x_fetch q_k155 5 = x_cl_ 8 156 3 := rfl
theorem t155_5 (C : xF) (s n : Nat) (z : xS) : x_to q_k155 C s (n + 1) 5 z = x_nx q_k155 C s n ((x_cl_ 8 156 3) C z) := x_to_at f155_5 C s n z
theorem f155_8 : x_fetch q_k155 8 = x_st (x_pop 9) := rfl
theorem t155_8 (C : xF) (s n : Nat) (z : xS) : x_to q_k155 C s (n + 1) 8 z = x_nx q_k155 C s n ((x_st (x_pop 9)) C z) := x_to_at f155_8 C s n z
theorem f155_9 : x_fetch q_k155 9 = x_rv := rfl
theorem t155_9 (C : xF) (s n : Nat) (z : xS) : x_to q_k155 C s (n + 1) 9 z = x_nx q_k155 C s n ((x_rv) C z) := x_to_at f155_9 C s n z
theorem f156_0 : x_fetch q_k156 0 = x_ldi 1 0 := rfl
theorem t156_0 (C : xF) (s n : Nat) (z : xS) : x_to q_k156 C s (n + 1) 0 z = x_nx q_k156 C s n ((x_ldi 1 0) C z) := x_to_at f156_0 C s n z
theorem f156_1 : x_fetch q_k156 1 = x_st (x_iflt 9 4) := rfl
theorem t156_1 (C : xF) (s n : Nat) (z : xS) : x_to q_k156 C s (n + 1) 1 z = x_nx q_k156 C s n ((x_st (x_iflt 9 4)) C z) := x_to_at f156_1 C s n z
theorem f156_4 : x_fetch q_k156 4 = x_ldi 5 0 := rfl
theorem t156_4 (C : xF) (s n : Nat) (z : xS) : x_to q_k156 C s (n + 1) 4 z = x_nx q_k156 C s n ((x_ldi 5 0) C z) := x_to_at f156_4 C s n z
theorem f156_5 : x_fetch q_k156 5 = x_ldi 6 1 := rfl
theorem t156_5 (C : xF) (s n : Nat) (z : xS) : x_to q_k156 C s (n + 1) 5 z = x_nx q_k156 C s n ((x_ldi 6 1) C z) := x_to_at f156_5 C s n z
theorem f156_6 : x_fetch q_k156 6 = x_st (x_iclt 16 9) := rfl
theorem t156_6 (C : xF) (s n : Nat) (z : xS) : x_to q_k156 C s (n + 1) 6 z = x_nx q_k156 C s n ((x_st (x_iclt 16 9)) C z) := x_to_at f156_6 C s n z
theorem f156_9 : x_fetch q_k156 9 = x_lda 10 2 := rfl
theorem t156_9 (C : xF) (s n : Nat) (z : xS) : x_to q_k156 C s (n + 1) 9 z = x_nx q_k156 C s n ((x_lda 10 2) C z) := x_to_at f156_9 C s n z
theorem f156_10 : x_fetch q_k156 10 = x_ldi 11 0 := rfl
theorem t156_10 (C : xF) (s n : Nat) (z : xS) : x_to q_k156 C s (n + 1) 10 z = x_nx q_k156 C s n ((x_ldi 11 0) C z) := x_to_at f156_10 C s n z
theorem f156_11 : x_fetch q_k156 11 = x_ldi 12 1 := rfl
theorem t156_11 (C : xF) (s n : Nat) (z : xS) : x_to q_k156 C s (n + 1) 11 z = x_nx q_k156 C s n ((x_ldi 12 1) C z) := x_to_at f156_11 C s n z
theorem f156_12 : x_fetch q_k156 12 = fun _ _ => none := rfl
theorem t156_12 (C : xF) (s n : Nat) (z : xS) : x_to q_k156 C s (n + 1) 12 z = x_nx q_k156 C s n ((fun _ _ => none) C z) := x_to_at f156_12 C s n z
theorem f156_15 : x_fetch q_k156 15 = fun _ _ => none := rfl
theorem t156_15 (C : xF) (s n : Nat) (z : xS) : x_to q_k156 C s (n + 1) 15 z = x_nx q_k156 C s n ((fun _ _ => none) C z) := x_to_at f156_15 C s n z
theorem f156_16 : x_fetch q_k156 16 = x_ldi 17 0 := rfl
theorem t156_16 (C : xF) (s n : Nat) (z : xS) : x_to q_k156 C s (n + 1) 16 z = x_nx q_k156 C s n ((x_ldi 17 0) C z) := x_to_at f156_16 C s n z
theorem f156_17 : x_fetch q_k156 17 = x_ri (.int) := rfl
theorem t156_17 (C : xF) (s n : Nat) (z : xS) : x_to q_k156 C s (n + 1) 17 z = x_nx q_k156 C s n ((x_ri (.int)) C z) := x_to_at f156_17 C s n z
theorem s_l5 : ∀ n, n < 32 → ((iZ ((n : Nat) : Int) &&& 31).toBitVec.smod 32).toNat = n := by decide +kernel
theorem b_one : ∀ i, i < 31 → (iZ 1).toBitVec.getLsbD (i + 1) = false := by decide +kernel
theorem b_odd (y : Int32) : (y &&& iZ 1 = iZ 1) ↔ y.toBitVec.getLsbD 0 = true := by
  have e : (iZ 1).toBitVec.getLsbD 0 = true := by decide +kernel
  constructor
  · intro h
    have := congrArg (fun z : Int32 => z.toBitVec.getLsbD 0) h
    rw [Int32.toBitVec_and, BitVec.getLsbD_and, e, Bool.and_true] at this
    exact this
  · intro h
    apply Int32.toBitVec_inj.mp
    apply BitVec.eq_of_getLsbD_eq
    intro i hi
    rw [Int32.toBitVec_and, BitVec.getLsbD_and]
    cases i with
    | zero => rw [h, Bool.true_and]
    | succ i => rw [b_one i (by omega), Bool.and_false]
theorem bt_nat (x n : Nat) (hn : n < 30) : bt (x : Int) (n : Int) = x.testBit n := by
  unfold bt
  rw [Bool.eq_iff_iff, decide_eq_true_iff, b_odd, Int32.toBitVec_shiftRight]
  show ((iZ (x : Int)).toBitVec.sshiftRight ((iZ ((n : Nat) : Int) &&& 31).toBitVec.smod 32).toNat).getLsbD 0 = true ↔ _
  rw [s_l5 n (by omega), BitVec.getLsbD_sshiftRight, iZ_bv, Nat.add_zero, if_pos (by omega), BitVec.getLsbD_ofNat]
  simp [show n < 32 by omega]
theorem pw_Z : ∀ n : Fin 30, iZ 1 <<< (iZ ((n : Nat) : Int) &&& 31) = iZ ((2 ^ (n : Nat) : Nat) : Int) := by decide +kernel
theorem and255 : ∀ n : Fin 128, iZ ((n : Nat) : Int) &&& iZ 255 = iZ ((n : Nat) : Int) := by decide +kernel
theorem and255_c {c : Int} (h0 : 0 ≤ c) (h1 : c < 128) : iZ c &&& iZ 255 = iZ c := by
  have := and255 ⟨c.toNat, by omega⟩
  rw [show (((⟨c.toNat, by omega⟩ : Fin 128) : Nat) : Int) = c by show ((c.toNat : Nat) : Int) = c; omega] at this
  exact this
theorem rH_0 (r : List Value) : x_rH 1 (.ref 0 :: r) = true := rfl
theorem rH_s (s : Nat) (r : List Value) : x_rH 1 (.ref (s + 3) :: r) = false := rfl
theorem rH2_0 (v : Value) (r : List Value) : x_rH 2 (v :: .ref 0 :: r) = true := rfl
theorem rH2_s (v : Value) (s : Nat) (r : List Value) : x_rH 2 (v :: .ref (s + 3) :: r) = false := rfl
theorem gfV_0 (n ci k : Nat) (K : xF) (lv : xL) (r : List Value) (h : xH) : x_gfV n ci k K (lv, .ref 0 :: r, h) = some (.inl (n, lv, .ref 1 :: r, h)) := rfl
theorem gfV_s (n ci k s : Nat) (K : xF) (lv : xL) (r : List Value) (h : xH) : x_gfV n ci k K (lv, .ref (s + 3) :: r, h) = x_gf n ci k K (lv, .ref (s + 3) :: r, h) := rfl
theorem gfC_0 (n ci k : Nat) (K : xF) (lv : xL) (r : List Value) (h : xH) : x_gfC n ci k K (lv, .ref 0 :: r, h) = some (.inl (n, lv, .int 0 :: r, h)) := rfl
theorem gfC_s (n ci k s : Nat) (K : xF) (lv : xL) (r : List Value) (h : xH) : x_gfC n ci k K (lv, .ref (s + 3) :: r, h) = x_gf n ci k K (lv, .ref (s + 3) :: r, h) := rfl
theorem alnH_0 (n nt : Nat) (K : xF) (lv : xL) (r : List Value) (h : xH) : x_alnH n nt K (lv, .ref 1 :: r, h) = some (.inl (n, lv, .int 1 :: r, h)) := rfl
theorem alnH_s (n nt s : Nat) (K : xF) (lv : xL) (r : List Value) (h : xH) : x_alnH n nt K (lv, .ref (s + 3) :: r, h) = x_aln n nt K (lv, .ref (s + 3) :: r, h) := rfl
theorem aldH_0 (n t : Nat) (K : xF) (lv : xL) (i : Int32) (r : List Value) (h : xH) : x_aldH n t K (lv, .int i :: .ref 1 :: r, h) = if i = 0 then some (.inl (n, lv, .int 35 :: r, h)) else none := rfl
theorem aldH_s (n t s : Nat) (K : xF) (lv : xL) (i : Int32) (r : List Value) (h : xH) : x_aldH n t K (lv, .int i :: .ref (s + 3) :: r, h) = x_ald n t K (lv, .int i :: .ref (s + 3) :: r, h) := rfl
section SHT
variable {w : Nat → xC} {N lo t : Nat} {L : List Int}
theorem m151 (d : Nat) (h : TXo lo w N t L) : Xc (d + 1) 151 [.ref t] (hp w N) (some (.int (iZ 0)), hp w N) := by
  rcases h with ⟨rfl, rfl⟩ | ⟨s, v, rfl, h2, h3, h4, h5, h6, h7, h8⟩
  · skip
    refine Xc.of rfl (by simp [lg_sl, Value.category]) ?_ (x_le.rf)
    have hc : c1 (lv_args 0 [.ref 0]) := by simp [c1, lv_args, Value.category]
    have l0 : x_lk (lv_args 0 [.ref 0]) 0 = some (.ref 0) := rfl
    generalize lv_args 0 [.ref 0] = lv at hc l0
    refine Gx.fin 20 Cs.tt (fun X _ => ?_)
    simp (disch := first | (refine c1_id ?_; assumption) | (refine c1_st rfl ?_; repeat (first | assumption | refine c1_st rfl ?_)) | omega) [nx_l, nx_r, nx_n, x_st, x_push, x_bin, x_div, x_un, x_dup, x_pop, x_dup2, x_goto, x_ifeq, x_ifne, x_iflt, x_ifge, x_ifgt, x_ifle, x_iceq, x_icne, x_iclt, x_icge, x_icgt, x_icle, x_ifnull, x_ifnonnull, x_ldi, x_lda, x_sti, x_sta, x_iinc, x_gf, x_pf, x_ald, x_ast, x_aln, x_len, x_cl_, x_cv, x_cs, x_rc, x_r0, x_isT, x_oi, x_rv, x_ri, x_ra, Value.category, t151_0, t151_3, t151_6, t151_7, t151_10, t151_13, t151_14, lk_s, hp_get, hp_set, uH_at, uH_ne, uH_upd, uH_swap, iZ_add, iZ_sub, iZ_mul, iZ_neg, iZ_lt, iZ_le, iZ_eq, iZ_div, iZ_of, ix_Z, gZ_map, gZ_mapI, gZ_map', le_0, le_s, sZ_map, sZ_len, bZ_0, bZ_inj, bZ_t, bZ_f, nr_i, nr_0, nr_1, nr_b, ft_i, ft_b, ft_0, ft_1, zl_0, zl_1, l0, gfC_0, nr_B0, -List.filter_filter, -List.getElem?_map, -List.getD_eq_getElem?_getD]
  · skip
    refine Xc.of rfl (by simp [lg_sl, Value.category]) ?_ (x_le.rf)
    have hc : c1 (lv_args 0 [.ref (s + 3)]) := by simp [c1, lv_args, Value.category]
    have l0 : x_lk (lv_args 0 [.ref (s + 3)]) 0 = some (.ref (s + 3)) := rfl
    generalize lv_args 0 [.ref (s + 3)] = lv at hc l0
    refine Gx.fin 20 Cs.tt (fun X _ => ?_)
    simp (disch := first | (refine c1_id ?_; assumption) | (refine c1_st rfl ?_; repeat (first | assumption | refine c1_st rfl ?_)) | omega) [nx_l, nx_r, nx_n, x_st, x_push, x_bin, x_div, x_un, x_dup, x_pop, x_dup2, x_goto, x_ifeq, x_ifne, x_iflt, x_ifge, x_ifgt, x_ifle, x_iceq, x_icne, x_iclt, x_icge, x_icgt, x_icle, x_ifnull, x_ifnonnull, x_ldi, x_lda, x_sti, x_sta, x_iinc, x_gf, x_pf, x_ald, x_ast, x_aln, x_len, x_cl_, x_cv, x_cs, x_rc, x_r0, x_isT, x_oi, x_rv, x_ri, x_ra, Value.category, t151_0, t151_3, t151_6, t151_7, t151_10, t151_13, t151_14, lk_s, hp_get, hp_set, uH_at, uH_ne, uH_upd, uH_swap, iZ_add, iZ_sub, iZ_mul, iZ_neg, iZ_lt, iZ_le, iZ_eq, iZ_div, iZ_of, ix_Z, gZ_map, gZ_mapI, gZ_map', le_0, le_s, sZ_map, sZ_len, bZ_0, bZ_inj, bZ_t, bZ_f, nr_i, nr_0, nr_1, nr_b, ft_i, ft_b, ft_0, ft_1, zl_0, zl_1, l0, h6, gfC_s, nr_B0, sO, -List.filter_filter, -List.getElem?_map, -List.getD_eq_getElem?_getD]
theorem m153 (d : Nat) (h : TXo lo w N t L) : Xc (d + 1) 153 [.ref t] (hp w N) (some (.int (iZ 1)), hp w N) := by
  rcases h with ⟨rfl, rfl⟩ | ⟨s, v, rfl, h2, h3, h4, h5, h6, h7, h8⟩
  · skip
    refine Xc.of rfl (by simp [lg_sl, Value.category]) ?_ (x_le.rf)
    have hc : c1 (lv_args 0 [.ref 0]) := by simp [c1, lv_args, Value.category]
    have l0 : x_lk (lv_args 0 [.ref 0]) 0 = some (.ref 0) := rfl
    generalize lv_args 0 [.ref 0] = lv at hc l0
    refine Gx.fin 20 Cs.tt (fun X _ => ?_)
    simp (disch := first | (refine c1_id ?_; assumption) | (refine c1_st rfl ?_; repeat (first | assumption | refine c1_st rfl ?_)) | omega) [nx_l, nx_r, nx_n, x_st, x_push, x_bin, x_div, x_un, x_dup, x_pop, x_dup2, x_goto, x_ifeq, x_ifne, x_iflt, x_ifge, x_ifgt, x_ifle, x_iceq, x_icne, x_iclt, x_icge, x_icgt, x_icle, x_ifnull, x_ifnonnull, x_ldi, x_lda, x_sti, x_sta, x_iinc, x_gf, x_pf, x_ald, x_ast, x_aln, x_len, x_cl_, x_cv, x_cs, x_rc, x_r0, x_isT, x_oi, x_rv, x_ri, x_ra, Value.category, t153_0, t153_3, t153_6, t153_7, t153_10, t153_13, t153_14, t153_17, t153_18, lk_s, hp_get, hp_set, uH_at, uH_ne, uH_upd, uH_swap, iZ_add, iZ_sub, iZ_mul, iZ_neg, iZ_lt, iZ_le, iZ_eq, iZ_div, iZ_of, ix_Z, gZ_map, gZ_mapI, gZ_map', le_0, le_s, sZ_map, sZ_len, bZ_0, bZ_inj, bZ_t, bZ_f, nr_i, nr_0, nr_1, nr_b, ft_i, ft_b, ft_0, ft_1, zl_0, zl_1, l0, gfC_0, -List.filter_filter, -List.getElem?_map, -List.getD_eq_getElem?_getD]
  · skip
    refine Xc.of rfl (by simp [lg_sl, Value.category]) ?_ (x_le.rf)
    have hc : c1 (lv_args 0 [.ref (s + 3)]) := by simp [c1, lv_args, Value.category]
    have l0 : x_lk (lv_args 0 [.ref (s + 3)]) 0 = some (.ref (s + 3)) := rfl
    generalize lv_args 0 [.ref (s + 3)] = lv at hc l0
    refine Gx.fin 20 Cs.tt (fun X _ => ?_)
    simp (disch := first | (refine c1_id ?_; assumption) | (refine c1_st rfl ?_; repeat (first | assumption | refine c1_st rfl ?_)) | omega) [nx_l, nx_r, nx_n, x_st, x_push, x_bin, x_div, x_un, x_dup, x_pop, x_dup2, x_goto, x_ifeq, x_ifne, x_iflt, x_ifge, x_ifgt, x_ifle, x_iceq, x_icne, x_iclt, x_icge, x_icgt, x_icle, x_ifnull, x_ifnonnull, x_ldi, x_lda, x_sti, x_sta, x_iinc, x_gf, x_pf, x_ald, x_ast, x_aln, x_len, x_cl_, x_cv, x_cs, x_rc, x_r0, x_isT, x_oi, x_rv, x_ri, x_ra, Value.category, t153_0, t153_3, t153_6, t153_7, t153_10, t153_13, t153_14, t153_17, t153_18, lk_s, hp_get, hp_set, uH_at, uH_ne, uH_upd, uH_swap, iZ_add, iZ_sub, iZ_mul, iZ_neg, iZ_lt, iZ_le, iZ_eq, iZ_div, iZ_of, ix_Z, gZ_map, gZ_mapI, gZ_map', le_0, le_s, sZ_map, sZ_len, bZ_0, bZ_inj, bZ_t, bZ_f, nr_i, nr_0, nr_1, nr_b, ft_i, ft_b, ft_0, ft_1, zl_0, zl_1, l0, h6, gfC_s, sO, -List.filter_filter, -List.getElem?_map, -List.getD_eq_getElem?_getD]
theorem m150 (d : Nat) (h : TXo lo w N t L) : Xc (d + 2) 150 [.ref t] (hp w N) (some (.int (iZ (L.length : Int))), hp w N) := by
  have X := m151 d h
  rcases h with ⟨rfl, rfl⟩ | ⟨s, v, rfl, h2, h3, h4, h5, h6, h7, h8⟩
  · skip
    refine Xc.of rfl (by simp [lg_sl, Value.category]) ?_ (x_le.rf)
    have hc : c1 (lv_args 0 [.ref 0]) := by simp [c1, lv_args, Value.category]
    have l0 : x_lk (lv_args 0 [.ref 0]) 0 = some (.ref 0) := rfl
    generalize lv_args 0 [.ref 0] = lv at hc l0
    refine Gx.fin 20 X (fun X mm => ?_)
    simp (disch := first | (refine c1_id ?_; assumption) | (refine c1_st rfl ?_; repeat (first | assumption | refine c1_st rfl ?_)) | omega) [nx_l, nx_r, nx_n, x_st, x_push, x_bin, x_div, x_un, x_dup, x_pop, x_dup2, x_goto, x_ifeq, x_ifne, x_iflt, x_ifge, x_ifgt, x_ifle, x_iceq, x_icne, x_iclt, x_icge, x_icgt, x_icle, x_ifnull, x_ifnonnull, x_ldi, x_lda, x_sti, x_sta, x_iinc, x_gf, x_pf, x_ald, x_ast, x_aln, x_len, x_cl_, x_cv, x_cs, x_rc, x_r0, x_isT, x_oi, x_rv, x_ri, x_ra, Value.category, t150_0, t150_1, t150_4, t150_5, t150_6, t150_9, t150_10, lk_s, hp_get, hp_set, uH_at, uH_ne, uH_upd, uH_swap, iZ_add, iZ_sub, iZ_mul, iZ_neg, iZ_lt, iZ_le, iZ_eq, iZ_div, iZ_of, ix_Z, gZ_map, gZ_mapI, gZ_map', le_0, le_s, sZ_map, sZ_len, bZ_0, bZ_inj, bZ_t, bZ_f, nr_i, nr_0, nr_1, nr_b, ft_i, ft_b, ft_0, ft_1, zl_0, zl_1, l0, gfV_0, alnH_0, rH_0, x_cvH, sh_r, mm, -List.filter_filter, -List.getElem?_map, -List.getD_eq_getElem?_getD]
  · skip
    refine Xc.of rfl (by simp [lg_sl, Value.category]) ?_ (x_le.rf)
    have hc : c1 (lv_args 0 [.ref (s + 3)]) := by simp [c1, lv_args, Value.category]
    have l0 : x_lk (lv_args 0 [.ref (s + 3)]) 0 = some (.ref (s + 3)) := rfl
    generalize lv_args 0 [.ref (s + 3)] = lv at hc l0
    refine Gx.fin 20 X (fun X mm => ?_)
    simp (disch := first | (refine c1_id ?_; assumption) | (refine c1_st rfl ?_; repeat (first | assumption | refine c1_st rfl ?_)) | omega) [nx_l, nx_r, nx_n, x_st, x_push, x_bin, x_div, x_un, x_dup, x_pop, x_dup2, x_goto, x_ifeq, x_ifne, x_iflt, x_ifge, x_ifgt, x_ifle, x_iceq, x_icne, x_iclt, x_icge, x_icgt, x_icle, x_ifnull, x_ifnonnull, x_ldi, x_lda, x_sti, x_sta, x_iinc, x_gf, x_pf, x_ald, x_ast, x_aln, x_len, x_cl_, x_cv, x_cs, x_rc, x_r0, x_isT, x_oi, x_rv, x_ri, x_ra, Value.category, t150_0, t150_1, t150_4, t150_5, t150_6, t150_9, t150_10, lk_s, hp_get, hp_set, uH_at, uH_ne, uH_upd, uH_swap, iZ_add, iZ_sub, iZ_mul, iZ_neg, iZ_lt, iZ_le, iZ_eq, iZ_div, iZ_of, ix_Z, gZ_map, gZ_mapI, gZ_map', le_0, le_s, sZ_map, sZ_len, bZ_0, bZ_inj, bZ_t, bZ_f, nr_i, nr_0, nr_1, nr_b, ft_i, ft_b, ft_0, ft_1, zl_0, zl_1, l0, h6, h7, gfV_s, alnH_s, rH_s, x_cvH, sh_r, mm, sO, -List.filter_filter, -List.getElem?_map, -List.getD_eq_getElem?_getD]
theorem m156 (d : Nat) (w : Nat → xC) (N : Nat) (i l : Int) (i0 : 0 ≤ i) (i1 : i < l) (l9 : l < 10000) (v : Value) : Xc (d + 1) 156 [.int (iZ i), .int (iZ l), .retAddr 0] (hp w N) (some (.int (iZ i)), hp w N) := by
  refine Xc.of rfl (by simp [lg_sl, Value.category]) ?_ (x_le.rf)
  have hc : c1 (lv_args 0 [.int (iZ i), .int (iZ l), .retAddr 0]) := by simp [c1, lv_args, Value.category]
  have l0 : x_lk (lv_args 0 [.int (iZ i), .int (iZ l), .retAddr 0]) 0 = some (.int (iZ i)) := rfl
  have l1 : x_lk (lv_args 0 [.int (iZ i), .int (iZ l), .retAddr 0]) 1 = some (.int (iZ l)) := rfl
  have l2 : x_lk (lv_args 0 [.int (iZ i), .int (iZ l), .retAddr 0]) 2 = some (.retAddr 0) := rfl
  generalize lv_args 0 [.int (iZ i), .int (iZ l), .retAddr 0] = lv at hc l0 l1 l2
  refine Gx.fin 20 Cs.tt (fun X _ => ?_)
  have b1 : ¬ i < 0 := by omega
  simp (disch := first | (refine c1_id ?_; assumption) | (refine c1_st rfl ?_; repeat (first | assumption | refine c1_st rfl ?_)) | omega) [nx_l, nx_r, nx_n, x_st, x_push, x_bin, x_div, x_un, x_dup, x_pop, x_dup2, x_goto, x_ifeq, x_ifne, x_iflt, x_ifge, x_ifgt, x_ifle, x_iceq, x_icne, x_iclt, x_icge, x_icgt, x_icle, x_ifnull, x_ifnonnull, x_ldi, x_lda, x_sti, x_sta, x_iinc, x_gf, x_pf, x_ald, x_ast, x_aln, x_len, x_cl_, x_cv, x_cs, x_rc, x_r0, x_isT, x_oi, x_rv, x_ri, x_ra, Value.category, t156_0, t156_1, t156_4, t156_5, t156_6, t156_9, t156_10, t156_11, t156_12, t156_15, t156_16, t156_17, lk_s, hp_get, hp_set, uH_at, uH_ne, uH_upd, uH_swap, iZ_add, iZ_sub, iZ_mul, iZ_neg, iZ_lt, iZ_le, iZ_eq, iZ_div, iZ_of, ix_Z, gZ_map, gZ_mapI, gZ_map', le_0, le_s, sZ_map, sZ_len, bZ_0, bZ_inj, bZ_t, bZ_f, nr_i, nr_0, nr_1, nr_b, ft_i, ft_b, ft_0, ft_1, zl_0, zl_1, l0, l1, l2, b1, i1, -List.filter_filter, -List.getElem?_map, -List.getD_eq_getElem?_getD]
theorem m155 (d : Nat) (w : Nat → xC) (N : Nat) (i l : Int) (i0 : 0 ≤ i) (i1 : i < l) (l9 : l < 10000) : Xc (d + 2) 155 [.int (iZ i), .int (iZ l)] (hp w N) (none, hp w N) := by
  have X := m156 d w N i l i0 i1 l9 .null
  refine Xc.of rfl (by simp [lg_sl, Value.category]) ?_ (x_le.rf)
  have hc : c1 (lv_args 0 [.int (iZ i), .int (iZ l)]) := by simp [c1, lv_args, Value.category]
  have l0 : x_lk (lv_args 0 [.int (iZ i), .int (iZ l)]) 0 = some (.int (iZ i)) := rfl
  have l1 : x_lk (lv_args 0 [.int (iZ i), .int (iZ l)]) 1 = some (.int (iZ l)) := rfl
  generalize lv_args 0 [.int (iZ i), .int (iZ l)] = lv at hc l0 l1
  refine Gx.fin 20 X (fun X mm => ?_)
  simp (disch := first | (refine c1_id ?_; assumption) | (refine c1_st rfl ?_; repeat (first | assumption | refine c1_st rfl ?_)) | omega) [nx_l, nx_r, nx_n, x_st, x_push, x_bin, x_div, x_un, x_dup, x_pop, x_dup2, x_goto, x_ifeq, x_ifne, x_iflt, x_ifge, x_ifgt, x_ifle, x_iceq, x_icne, x_iclt, x_icge, x_icgt, x_icle, x_ifnull, x_ifnonnull, x_ldi, x_lda, x_sti, x_sta, x_iinc, x_gf, x_pf, x_ald, x_ast, x_aln, x_len, x_cl_, x_cv, x_cs, x_rc, x_r0, x_isT, x_oi, x_rv, x_ri, x_ra, Value.category, t155_0, t155_1, t155_2, t155_5, t155_8, t155_9, lk_s, hp_get, hp_set, uH_at, uH_ne, uH_upd, uH_swap, iZ_add, iZ_sub, iZ_mul, iZ_neg, iZ_lt, iZ_le, iZ_eq, iZ_div, iZ_of, ix_Z, gZ_map, gZ_mapI, gZ_map', le_0, le_s, sZ_map, sZ_len, bZ_0, bZ_inj, bZ_t, bZ_f, nr_i, nr_0, nr_1, nr_b, ft_i, ft_b, ft_0, ft_1, zl_0, zl_1, l0, l1, mm, -List.filter_filter, -List.getElem?_map, -List.getD_eq_getElem?_getD]
theorem m154 (d : Nat) {vt : Nat} (hv : (vt = 1 ∧ L = [35]) ∨ ∃ v, vt = v + 3 ∧ v < N ∧ w v = cI 5 L) (hL : ∀ x ∈ L, 0 ≤ x ∧ x < 128) (l9 : L.length < 300) (i : Int) (i0 : 0 ≤ i) (i1 : i < L.length) : Xc (d + 3) 154 [.ref vt, .int (iZ i)] (hp w N) (some (.int (iZ (L.getD i.toNat 0))), hp w N) := by
  have X := m155 d w N i (L.length : Int) i0 i1 (by omega)
  have cr := hL _ (getD_mem (l := L) (i := i.toNat) (by omega))
  obtain ⟨c, hc_⟩ : ∃ c, c = L.getD i.toNat 0 := ⟨_, rfl⟩
  rw [← hc_] at cr ⊢
  have e1 := and255_c cr.1 cr.2
  have e2 := chU_c cr.1 cr.2
  have e3 := nrC_c cr.1 cr.2
  rcases hv with ⟨rfl, rfl⟩ | ⟨v, rfl, h2, h3⟩
  · simp only [List.length_singleton] at i1
    have ei : i = 0 := by omega
    subst ei
    have ec : c = 35 := hc_
    subst ec
    refine Xc.of rfl (by simp [lg_sl, Value.category]) ?_ (x_le.rf)
    have hc : c1 (lv_args 0 [.ref 1, .int (iZ 0)]) := by simp [c1, lv_args, Value.category]
    have l0 : x_lk (lv_args 0 [.ref 1, .int (iZ 0)]) 0 = some (.ref 1) := rfl
    have l1 : x_lk (lv_args 0 [.ref 1, .int (iZ 0)]) 1 = some (.int (iZ 0)) := rfl
    generalize lv_args 0 [.ref 1, .int (iZ 0)] = lv at hc l0 l1
    refine Gx.fin 30 X (fun X mm => ?_)
    rw [show (([35] : List Int).length : Int) = 1 from rfl] at mm
    simp (disch := first | (refine c1_id ?_; assumption) | (refine c1_st rfl ?_; repeat (first | assumption | refine c1_st rfl ?_)) | omega) [nx_l, nx_r, nx_n, x_st, x_push, x_bin, x_div, x_un, x_dup, x_pop, x_dup2, x_goto, x_ifeq, x_ifne, x_iflt, x_ifge, x_ifgt, x_ifle, x_iceq, x_icne, x_iclt, x_icge, x_icgt, x_icle, x_ifnull, x_ifnonnull, x_ldi, x_lda, x_sti, x_sta, x_iinc, x_gf, x_pf, x_ald, x_ast, x_aln, x_len, x_cl_, x_cv, x_cs, x_rc, x_r0, x_isT, x_oi, x_rv, x_ri, x_ra, Value.category, t154_0, t154_1, t154_2, t154_3, t154_6, t154_7, t154_8, t154_9, t154_12, t154_13, t154_14, lk_s, hp_get, hp_set, uH_at, uH_ne, uH_upd, uH_swap, iZ_add, iZ_sub, iZ_mul, iZ_neg, iZ_lt, iZ_le, iZ_eq, iZ_div, iZ_of, ix_Z, gZ_map, gZ_mapI, gZ_map', le_0, le_s, sZ_map, sZ_len, bZ_0, bZ_inj, bZ_t, bZ_f, nr_i, nr_0, nr_1, nr_b, ft_i, ft_b, ft_0, ft_1, zl_0, zl_1, zl_255, l0, l1, alnH_0, aldH_0, mm, e1, e2, e3, zl_35, -List.filter_filter, -List.getElem?_map, -List.getD_eq_getElem?_getD]
  · skip
    refine Xc.of rfl (by simp [lg_sl, Value.category]) ?_ (x_le.rf)
    have hc : c1 (lv_args 0 [.ref (v + 3), .int (iZ i)]) := by simp [c1, lv_args, Value.category]
    have l0 : x_lk (lv_args 0 [.ref (v + 3), .int (iZ i)]) 0 = some (.ref (v + 3)) := rfl
    have l1 : x_lk (lv_args 0 [.ref (v + 3), .int (iZ i)]) 1 = some (.int (iZ i)) := rfl
    generalize lv_args 0 [.ref (v + 3), .int (iZ i)] = lv at hc l0 l1
    refine Gx.fin 30 X (fun X mm => ?_)
    obtain ⟨q, hq⟩ : ∃ q : Int, q = (L.length : Int) := ⟨_, rfl⟩
    have hq' : (L.length : Int) = q := hq.symm
    rw [hq'] at mm
    have hg : gZ L i = c := hc_.symm
    simp (disch := first | (refine c1_id ?_; assumption) | (refine c1_st rfl ?_; repeat (first | assumption | refine c1_st rfl ?_)) | omega) [nx_l, nx_r, nx_n, x_st, x_push, x_bin, x_div, x_un, x_dup, x_pop, x_dup2, x_goto, x_ifeq, x_ifne, x_iflt, x_ifge, x_ifgt, x_ifle, x_iceq, x_icne, x_iclt, x_icge, x_icgt, x_icle, x_ifnull, x_ifnonnull, x_ldi, x_lda, x_sti, x_sta, x_iinc, x_gf, x_pf, x_ald, x_ast, x_aln, x_len, x_cl_, x_cv, x_cs, x_rc, x_r0, x_isT, x_oi, x_rv, x_ri, x_ra, Value.category, t154_0, t154_1, t154_2, t154_3, t154_6, t154_7, t154_8, t154_9, t154_12, t154_13, t154_14, lk_s, hp_get, hp_set, uH_at, uH_ne, uH_upd, uH_swap, iZ_add, iZ_sub, iZ_mul, iZ_neg, iZ_lt, iZ_le, iZ_eq, iZ_div, iZ_of, ix_Z, gZ_map, gZ_mapI, gZ_map', le_0, le_s, sZ_map, sZ_len, bZ_0, bZ_inj, bZ_t, bZ_f, nr_i, nr_0, nr_1, nr_b, ft_i, ft_b, ft_0, ft_1, zl_0, zl_1, zl_255, l0, l1, h3, alnH_s, aldH_s, hq', hg, mm, e1, e2, e3, -List.filter_filter, -List.getElem?_map, -List.getD_eq_getElem?_getD]
theorem m152 (d : Nat) (h : TXo lo w N t L) (i : Int) (i0 : 0 ≤ i) (i1 : i < L.length) : Xc (d + 4) 152 [.ref t, .int (iZ i)] (hp w N) (some (.int (iZ (L.getD i.toNat 0))), hp w N) := by
  have X1 := m153 (d + 2) h
  rcases h with ⟨rfl, rfl⟩ | ⟨s, v, rfl, h2, h3, h4, h5, h6, h7, h8, h9⟩
  · have hL : ∀ x ∈ ([35] : List Int), 0 ≤ x ∧ x < 128 := by decide
    have X2 := m154 (w := w) (N := N) (L := [35]) d (Or.inl ⟨rfl, rfl⟩) hL (by decide) i i0 i1
    have cr := hL _ (getD_mem (l := [35]) (i := i.toNat) (by omega))
    generalize ([35] : List Int).getD i.toNat 0 = c at X2 cr ⊢
    have e3 := nrC_c cr.1 cr.2
    refine Xc.of rfl (by simp [lg_sl, Value.category]) ?_ (x_le.rf)
    have hc : c1 (lv_args 0 [.ref 0, .int (iZ i)]) := by simp [c1, lv_args, Value.category]
    have l0 : x_lk (lv_args 0 [.ref 0, .int (iZ i)]) 0 = some (.ref 0) := rfl
    have l1 : x_lk (lv_args 0 [.ref 0, .int (iZ i)]) 1 = some (.int (iZ i)) := rfl
    generalize lv_args 0 [.ref 0, .int (iZ i)] = lv at hc l0 l1
    refine Gx.fin 30 (X1.and X2) (fun X mm => ?_)
    obtain ⟨mm1, mm2⟩ := mm
    simp (disch := first | (refine c1_id ?_; assumption) | (refine c1_st rfl ?_; repeat (first | assumption | refine c1_st rfl ?_)) | omega) [nx_l, nx_r, nx_n, x_st, x_push, x_bin, x_div, x_un, x_dup, x_pop, x_dup2, x_goto, x_ifeq, x_ifne, x_iflt, x_ifge, x_ifgt, x_ifle, x_iceq, x_icne, x_iclt, x_icge, x_icgt, x_icle, x_ifnull, x_ifnonnull, x_ldi, x_lda, x_sti, x_sta, x_iinc, x_gf, x_pf, x_ald, x_ast, x_aln, x_len, x_cl_, x_cv, x_cs, x_rc, x_r0, x_isT, x_oi, x_rv, x_ri, x_ra, Value.category, t152_0, t152_1, t152_4, t152_7, t152_8, t152_11, t152_12, t152_15, t152_16, t152_17, t152_20, t152_21, t152_24, lk_s, hp_get, hp_set, uH_at, uH_ne, uH_upd, uH_swap, iZ_add, iZ_sub, iZ_mul, iZ_neg, iZ_lt, iZ_le, iZ_eq, iZ_div, iZ_of, ix_Z, gZ_map, gZ_mapI, gZ_map', le_0, le_s, sZ_map, sZ_len, bZ_0, bZ_inj, bZ_t, bZ_f, nr_i, nr_0, nr_1, nr_b, ft_i, ft_b, ft_0, ft_1, zl_0, zl_1, l0, l1, gfV_0, rH_0, rH2_0, x_cvH, mm1, mm2, e3, -List.filter_filter, -List.getElem?_map, -List.getD_eq_getElem?_getD]
  · have X2 := m154 (w := w) (N := N) (L := L) d (Or.inr ⟨v, rfl, h5, h7⟩) h8 h9 i i0 i1
    have cr := h8 _ (getD_mem (l := L) (i := i.toNat) (by omega))
    generalize L.getD i.toNat 0 = c at X2 cr ⊢
    have e3 := nrC_c cr.1 cr.2
    refine Xc.of rfl (by simp [lg_sl, Value.category]) ?_ (x_le.rf)
    have hc : c1 (lv_args 0 [.ref (s + 3), .int (iZ i)]) := by simp [c1, lv_args, Value.category]
    have l0 : x_lk (lv_args 0 [.ref (s + 3), .int (iZ i)]) 0 = some (.ref (s + 3)) := rfl
    have l1 : x_lk (lv_args 0 [.ref (s + 3), .int (iZ i)]) 1 = some (.int (iZ i)) := rfl
    generalize lv_args 0 [.ref (s + 3), .int (iZ i)] = lv at hc l0 l1
    refine Gx.fin 30 (X1.and X2) (fun X mm => ?_)
    obtain ⟨mm1, mm2⟩ := mm
    simp (disch := first | (refine c1_id ?_; assumption) | (refine c1_st rfl ?_; repeat (first | assumption | refine c1_st rfl ?_)) | omega) [nx_l, nx_r, nx_n, x_st, x_push, x_bin, x_div, x_un, x_dup, x_pop, x_dup2, x_goto, x_ifeq, x_ifne, x_iflt, x_ifge, x_ifgt, x_ifle, x_iceq, x_icne, x_iclt, x_icge, x_icgt, x_icle, x_ifnull, x_ifnonnull, x_ldi, x_lda, x_sti, x_sta, x_iinc, x_gf, x_pf, x_ald, x_ast, x_aln, x_len, x_cl_, x_cv, x_cs, x_rc, x_r0, x_isT, x_oi, x_rv, x_ri, x_ra, Value.category, t152_0, t152_1, t152_4, t152_7, t152_8, t152_11, t152_12, t152_15, t152_16, t152_17, t152_20, t152_21, t152_24, lk_s, hp_get, hp_set, uH_at, uH_ne, uH_upd, uH_swap, iZ_add, iZ_sub, iZ_mul, iZ_neg, iZ_lt, iZ_le, iZ_eq, iZ_div, iZ_of, ix_Z, gZ_map, gZ_mapI, gZ_map', le_0, le_s, sZ_map, sZ_len, bZ_0, bZ_inj, bZ_t, bZ_f, nr_i, nr_0, nr_1, nr_b, ft_i, ft_b, ft_0, ft_1, zl_0, zl_1, l0, l1, h6, gfV_s, rH_s, rH2_s, x_cvH, mm1, mm2, e3, sO, -List.filter_filter, -List.getElem?_map, -List.getD_eq_getElem?_getD]
end SHT
section SHC
variable {w : Nat → xC} {N : Nat} {Ds : List (List (Int × List Int) × Bool × Int × Int)} {T U : List Int} {clm cf lf : Int}
theorem m71 (d : Nat) (h : CS w N Ds T U clm cf lf) : Xc (d + 1) 71 [.ref 3] (hp w N) (some (.int (iZ lf)), hp w N) := by
  have c0 := h.1
  have hN := h.2.2.2.2.2.2.2.2.2.2.2.1
  refine Xc.of rfl (by simp [lg_sl, Value.category]) ?_ (x_le.rf)
  have hc : c1 (lv_args 0 [.ref 3]) := by simp [c1, lv_args, Value.category]
  have l0 : x_lk (lv_args 0 [.ref 3]) 0 = some (.ref 3) := rfl
  generalize lv_args 0 [.ref 3] = lv at hc l0
  refine Gx.fin 20 Cs.tt (fun X _ => ?_)
  simp (disch := first | (refine c1_id ?_; assumption) | (refine c1_st rfl ?_; repeat (first | assumption | refine c1_st rfl ?_)) | omega) [nx_l, nx_r, nx_n, x_st, x_push, x_bin, x_div, x_un, x_dup, x_pop, x_dup2, x_goto, x_ifeq, x_ifne, x_iflt, x_ifge, x_ifgt, x_ifle, x_iceq, x_icne, x_iclt, x_icge, x_icgt, x_icle, x_ifnull, x_ifnonnull, x_ldi, x_lda, x_sti, x_sta, x_iinc, x_gf, x_pf, x_ald, x_ast, x_aln, x_len, x_cl_, x_cv, x_cs, x_rc, x_r0, x_isT, x_oi, x_rv, x_ri, x_ra, Value.category, t71_0, t71_1, t71_4, lk_s, hp_get, hp_set, uH_at, uH_ne, uH_upd, uH_swap, iZ_add, iZ_sub, iZ_mul, iZ_neg, iZ_lt, iZ_le, iZ_eq, iZ_div, iZ_of, ix_Z, gZ_map, gZ_mapI, gZ_map', le_0, le_s, sZ_map, sZ_len, bZ_0, bZ_inj, bZ_t, bZ_f, nr_i, nr_0, nr_1, nr_b, ft_i, ft_b, ft_0, ft_1, zl_0, zl_1, l0, c0, dk, -List.filter_filter, -List.getElem?_map, -List.getD_eq_getElem?_getD]
theorem m72 (d : Nat) (h : CS w N Ds T U clm cf lf) : Xc (d + 1) 72 [.ref 3] (hp w N) (some (.int (iZ (Ds.length : Int))), hp w N) := by
  have c0 := h.1
  have hN := h.2.2.2.2.2.2.2.2.2.2.2.1
  refine Xc.of rfl (by simp [lg_sl, Value.category]) ?_ (x_le.rf)
  have hc : c1 (lv_args 0 [.ref 3]) := by simp [c1, lv_args, Value.category]
  have l0 : x_lk (lv_args 0 [.ref 3]) 0 = some (.ref 3) := rfl
  generalize lv_args 0 [.ref 3] = lv at hc l0
  refine Gx.fin 20 Cs.tt (fun X _ => ?_)
  simp (disch := first | (refine c1_id ?_; assumption) | (refine c1_st rfl ?_; repeat (first | assumption | refine c1_st rfl ?_)) | omega) [nx_l, nx_r, nx_n, x_st, x_push, x_bin, x_div, x_un, x_dup, x_pop, x_dup2, x_goto, x_ifeq, x_ifne, x_iflt, x_ifge, x_ifgt, x_ifle, x_iceq, x_icne, x_iclt, x_icge, x_icgt, x_icle, x_ifnull, x_ifnonnull, x_ldi, x_lda, x_sti, x_sta, x_iinc, x_gf, x_pf, x_ald, x_ast, x_aln, x_len, x_cl_, x_cv, x_cs, x_rc, x_r0, x_isT, x_oi, x_rv, x_ri, x_ra, Value.category, t72_0, t72_1, t72_4, lk_s, hp_get, hp_set, uH_at, uH_ne, uH_upd, uH_swap, iZ_add, iZ_sub, iZ_mul, iZ_neg, iZ_lt, iZ_le, iZ_eq, iZ_div, iZ_of, ix_Z, gZ_map, gZ_mapI, gZ_map', le_0, le_s, sZ_map, sZ_len, bZ_0, bZ_inj, bZ_t, bZ_f, nr_i, nr_0, nr_1, nr_b, ft_i, ft_b, ft_0, ft_1, zl_0, zl_1, l0, c0, dk, -List.filter_filter, -List.getElem?_map, -List.getD_eq_getElem?_getD]
theorem m80 (d : Nat) (h : CS w N Ds T U clm cf lf) : Xc (d + 1) 80 [.ref 3] (hp w N) (some (.int (iZ (T.length : Int))), hp w N) := by
  have c0 := h.1
  have hN := h.2.2.2.2.2.2.2.2.2.2.2.1
  obtain ⟨p, Tx, c1_, _⟩ := h.2.2.1
  refine Xc.of rfl (by simp [lg_sl, Value.category]) ?_ (x_le.rf)
  have hc : c1 (lv_args 0 [.ref 3]) := by simp [c1, lv_args, Value.category]
  have l0 : x_lk (lv_args 0 [.ref 3]) 0 = some (.ref 3) := rfl
  generalize lv_args 0 [.ref 3] = lv at hc l0
  refine Gx.fin 20 Cs.tt (fun X _ => ?_)
  simp (disch := first | (refine c1_id ?_; assumption) | (refine c1_st rfl ?_; repeat (first | assumption | refine c1_st rfl ?_)) | omega) [nx_l, nx_r, nx_n, x_st, x_push, x_bin, x_div, x_un, x_dup, x_pop, x_dup2, x_goto, x_ifeq, x_ifne, x_iflt, x_ifge, x_ifgt, x_ifle, x_iceq, x_icne, x_iclt, x_icge, x_icgt, x_icle, x_ifnull, x_ifnonnull, x_ldi, x_lda, x_sti, x_sta, x_iinc, x_gf, x_pf, x_ald, x_ast, x_aln, x_len, x_cl_, x_cv, x_cs, x_rc, x_r0, x_isT, x_oi, x_rv, x_ri, x_ra, Value.category, t80_0, t80_1, t80_4, t80_7, lk_s, hp_get, hp_set, uH_at, uH_ne, uH_upd, uH_swap, iZ_add, iZ_sub, iZ_mul, iZ_neg, iZ_lt, iZ_le, iZ_eq, iZ_div, iZ_of, ix_Z, gZ_map, gZ_mapI, gZ_map', le_0, le_s, sZ_map, sZ_len, bZ_0, bZ_inj, bZ_t, bZ_f, nr_i, nr_0, nr_1, nr_b, ft_i, ft_b, ft_0, ft_1, zl_0, zl_1, l0, c0, c1_, dk, pO, -List.filter_filter, -List.getElem?_map, -List.getD_eq_getElem?_getD]
theorem m81 (d : Nat) (h : CS w N Ds T U clm cf lf) (k : Int) (kr : -2147483648 ≤ k ∧ k < 2147483648) : (inC Ds k = false → Xc (d + 1) 81 [.ref 3, .int (iZ k)] (hp w N) (some .null, hp w N)) ∧ (inC Ds k = true → ∃ n, CLa w N n (cl Ds k.toNat) ∧ Xc (d + 1) 81 [.ref 3, .int (iZ k)] (hp w N) (some (.ref (n + 3)), hp w N)) := by
  obtain ⟨c0, c30, _, ⟨Rf, r1, r2, r3⟩, _, _, _, _, _, _, _, hN, _⟩ := h
  obtain ⟨cnt, hcnt⟩ : ∃ cnt : Int, cnt = (Ds.length : Int) := ⟨_, rfl⟩
  rw [← hcnt] at c0
  have cnt0 : 0 ≤ cnt := by omega
  have cnt9 : cnt ≤ 30 := by omega
  refine ⟨fun hi => ?_, fun hi => ?_⟩
  · unfold inC at hi
    have hi : ¬ (0 ≤ k ∧ k < Ds.length) := by simpa using hi
    refine Xc.of rfl (by simp [lg_sl, Value.category]) ?_ (x_le.rf)
    have hc : c1 (lv_args 0 [.ref 3, .int (iZ k)]) := by simp [c1, lv_args, Value.category]
    have l0 : x_lk (lv_args 0 [.ref 3, .int (iZ k)]) 0 = some (.ref 3) := rfl
    have l1 : x_lk (lv_args 0 [.ref 3, .int (iZ k)]) 1 = some (.int (iZ k)) := rfl
    generalize lv_args 0 [.ref 3, .int (iZ k)] = lv at hc l0 l1
    refine Gx.fin 20 Cs.tt (fun X _ => ?_)
    by_cases k0 : k < 0
    · simp (disch := first | (refine c1_id ?_; assumption) | (refine c1_st rfl ?_; repeat (first | assumption | refine c1_st rfl ?_)) | omega) [nx_l, nx_r, nx_n, x_st, x_push, x_bin, x_div, x_un, x_dup, x_pop, x_dup2, x_goto, x_ifeq, x_ifne, x_iflt, x_ifge, x_ifgt, x_ifle, x_iceq, x_icne, x_iclt, x_icge, x_icgt, x_icle, x_ifnull, x_ifnonnull, x_ldi, x_lda, x_sti, x_sta, x_iinc, x_gf, x_pf, x_ald, x_ast, x_aln, x_len, x_cl_, x_cv, x_cs, x_rc, x_r0, x_isT, x_oi, x_rv, x_ri, x_ra, Value.category, t81_0, t81_1, t81_4, t81_5, t81_6, t81_9, t81_12, t81_13, t81_16, t81_17, t81_20, t81_21, t81_22, lk_s, hp_get, hp_set, uH_at, uH_ne, uH_upd, uH_swap, iZ_add, iZ_sub, iZ_mul, iZ_neg, iZ_lt, iZ_le, iZ_eq, iZ_div, iZ_of, ix_Z, gZ_map, gZ_mapI, gZ_map', le_0, le_s, sZ_map, sZ_len, bZ_0, bZ_inj, bZ_t, bZ_f, nr_i, nr_0, nr_1, nr_b, ft_i, ft_b, ft_0, ft_1, zl_0, zl_1, l0, l1, c0, k0, dk, -List.filter_filter, -List.getElem?_map, -List.getD_eq_getElem?_getD]
    · have k1 : ¬ k < cnt := by omega
      simp (disch := first | (refine c1_id ?_; assumption) | (refine c1_st rfl ?_; repeat (first | assumption | refine c1_st rfl ?_)) | omega) [nx_l, nx_r, nx_n, x_st, x_push, x_bin, x_div, x_un, x_dup, x_pop, x_dup2, x_goto, x_ifeq, x_ifne, x_iflt, x_ifge, x_ifgt, x_ifle, x_iceq, x_icne, x_iclt, x_icge, x_icgt, x_icle, x_ifnull, x_ifnonnull, x_ldi, x_lda, x_sti, x_sta, x_iinc, x_gf, x_pf, x_ald, x_ast, x_aln, x_len, x_cl_, x_cv, x_cs, x_rc, x_r0, x_isT, x_oi, x_rv, x_ri, x_ra, Value.category, t81_0, t81_1, t81_4, t81_5, t81_6, t81_9, t81_12, t81_13, t81_16, t81_17, t81_20, t81_21, t81_22, lk_s, hp_get, hp_set, uH_at, uH_ne, uH_upd, uH_swap, iZ_add, iZ_sub, iZ_mul, iZ_neg, iZ_lt, iZ_le, iZ_eq, iZ_div, iZ_of, ix_Z, gZ_map, gZ_mapI, gZ_map', le_0, le_s, sZ_map, sZ_len, bZ_0, bZ_inj, bZ_t, bZ_f, nr_i, nr_0, nr_1, nr_b, ft_i, ft_b, ft_0, ft_1, zl_0, zl_1, l0, l1, c0, k0, k1, dk, -List.filter_filter, -List.getElem?_map, -List.getD_eq_getElem?_getD]
  · unfold inC at hi
    have hi : 0 ≤ k ∧ k < Ds.length := by simpa using hi
    obtain ⟨n, n1, n2⟩ := r3 k.toNat (by omega)
    refine ⟨n, n2, ?_⟩
    refine Xc.of rfl (by simp [lg_sl, Value.category]) ?_ (x_le.rf)
    have hc : c1 (lv_args 0 [.ref 3, .int (iZ k)]) := by simp [c1, lv_args, Value.category]
    have l0 : x_lk (lv_args 0 [.ref 3, .int (iZ k)]) 0 = some (.ref 3) := rfl
    have l1 : x_lk (lv_args 0 [.ref 3, .int (iZ k)]) 1 = some (.int (iZ k)) := rfl
    generalize lv_args 0 [.ref 3, .int (iZ k)] = lv at hc l0 l1
    refine Gx.fin 20 Cs.tt (fun X _ => ?_)
    have k0 : ¬ k < 0 := by omega
    have k1 : k < cnt := by omega
    have n1' : Rf.getD (tN k) none = some (n + 3) := n1
    have rl : Rf.length < 100 := by omega
    have rl2 : k < Rf.length := by omega
    simp (disch := first | (refine c1_id ?_; assumption) | (refine c1_st rfl ?_; repeat (first | assumption | refine c1_st rfl ?_)) | omega) [nx_l, nx_r, nx_n, x_st, x_push, x_bin, x_div, x_un, x_dup, x_pop, x_dup2, x_goto, x_ifeq, x_ifne, x_iflt, x_ifge, x_ifgt, x_ifle, x_iceq, x_icne, x_iclt, x_icge, x_icgt, x_icle, x_ifnull, x_ifnonnull, x_ldi, x_lda, x_sti, x_sta, x_iinc, x_gf, x_pf, x_ald, x_ast, x_aln, x_len, x_cl_, x_cv, x_cs, x_rc, x_r0, x_isT, x_oi, x_rv, x_ri, x_ra, Value.category, t81_0, t81_1, t81_4, t81_5, t81_6, t81_9, t81_12, t81_13, t81_16, t81_17, t81_20, t81_21, t81_22, lk_s, hp_get, hp_set, uH_at, uH_ne, uH_upd, uH_swap, iZ_add, iZ_sub, iZ_mul, iZ_neg, iZ_lt, iZ_le, iZ_eq, iZ_div, iZ_of, ix_Z, gZ_map, gZ_mapI, gZ_map', le_0, le_s, sZ_map, sZ_len, bZ_0, bZ_inj, bZ_t, bZ_f, nr_i, nr_0, nr_1, nr_b, ft_i, ft_b, ft_0, ft_1, zl_0, zl_1, l0, l1, c0, r1, k0, k1, n1', x_aldr, va_rf, dk, -List.filter_filter, -List.getElem?_map, -List.getD_eq_getElem?_getD]
theorem m73 (d : Nat) (h : CS w N Ds T U clm cf lf) (k : Int) (kr : -2147483648 ≤ k ∧ k < 2147483648) : Xc (d + 2) 73 [.ref 3, .int (iZ k)] (hp w N) (some (.int (iZ (if inC Ds k = true then ((cl1 Ds k).length : Int) else -1))), hp w N) := by
  obtain ⟨a1, a2⟩ := m81 d h k kr
  have c0 := h.1
  have hN := h.2.2.2.2.2.2.2.2.2.2.2.1
  refine Xc.of rfl (by simp [lg_sl, Value.category]) ?_ (x_le.rf)
  have hc : c1 (lv_args 0 [.ref 3, .int (iZ k)]) := by simp [c1, lv_args, Value.category]
  have l0 : x_lk (lv_args 0 [.ref 3, .int (iZ k)]) 0 = some (.ref 3) := rfl
  have l1 : x_lk (lv_args 0 [.ref 3, .int (iZ k)]) 1 = some (.int (iZ k)) := rfl
  generalize lv_args 0 [.ref 3, .int (iZ k)] = lv at hc l0 l1
  cases hi : inC Ds k with
  | false =>
    rw [if_neg (by decide)]
    refine Gx.fin 20 (a1 hi) (fun X mm => ?_)
    simp (disch := first | (refine c1_id ?_; assumption) | (refine c1_st rfl ?_; repeat (first | assumption | refine c1_st rfl ?_)) | omega) [nx_l, nx_r, nx_n, x_st, x_push, x_bin, x_div, x_un, x_dup, x_pop, x_dup2, x_goto, x_ifeq, x_ifne, x_iflt, x_ifge, x_ifgt, x_ifle, x_iceq, x_icne, x_iclt, x_icge, x_icgt, x_icle, x_ifnull, x_ifnonnull, x_ldi, x_lda, x_sti, x_sta, x_iinc, x_gf, x_pf, x_ald, x_ast, x_aln, x_len, x_cl_, x_cv, x_cs, x_rc, x_r0, x_isT, x_oi, x_rv, x_ri, x_ra, Value.category, t73_0, t73_1, t73_2, t73_5, t73_6, t73_7, t73_10, t73_11, t73_14, t73_15, t73_18, t73_21, lk_s, hp_get, hp_set, uH_at, uH_ne, uH_upd, uH_swap, iZ_add, iZ_sub, iZ_mul, iZ_neg, iZ_lt, iZ_le, iZ_eq, iZ_div, iZ_of, ix_Z, gZ_map, gZ_mapI, gZ_map', le_0, le_s, sZ_map, sZ_len, bZ_0, bZ_inj, bZ_t, bZ_f, nr_i, nr_0, nr_1, nr_b, ft_i, ft_b, ft_0, ft_1, zl_0, zl_1, l0, l1, c0, mm, dk, -List.filter_filter, -List.getElem?_map, -List.getD_eq_getElem?_getD]
  | true =>
    rw [if_pos rfl]
    obtain ⟨n, ⟨t, S, E, B, b1, b2, b3, b4, b5⟩, X⟩ := a2 hi
    have f1 := b4.1.1
    refine Gx.fin 20 X (fun X mm => ?_)
    have ecl : (cl1 Ds k).length = (cl Ds k.toNat).1.length := rfl
    rw [ecl]
    simp (disch := first | (refine c1_id ?_; assumption) | (refine c1_st rfl ?_; repeat (first | assumption | refine c1_st rfl ?_)) | omega) [nx_l, nx_r, nx_n, x_st, x_push, x_bin, x_div, x_un, x_dup, x_pop, x_dup2, x_goto, x_ifeq, x_ifne, x_iflt, x_ifge, x_ifgt, x_ifle, x_iceq, x_icne, x_iclt, x_icge, x_icgt, x_icle, x_ifnull, x_ifnonnull, x_ldi, x_lda, x_sti, x_sta, x_iinc, x_gf, x_pf, x_ald, x_ast, x_aln, x_len, x_cl_, x_cv, x_cs, x_rc, x_r0, x_isT, x_oi, x_rv, x_ri, x_ra, Value.category, t73_0, t73_1, t73_2, t73_5, t73_6, t73_7, t73_10, t73_11, t73_14, t73_15, t73_18, t73_21, lk_s, hp_get, hp_set, uH_at, uH_ne, uH_upd, uH_swap, iZ_add, iZ_sub, iZ_mul, iZ_neg, iZ_lt, iZ_le, iZ_eq, iZ_div, iZ_of, ix_Z, gZ_map, gZ_mapI, gZ_map', le_0, le_s, sZ_map, sZ_len, bZ_0, bZ_inj, bZ_t, bZ_f, nr_i, nr_0, nr_1, nr_b, ft_i, ft_b, ft_0, ft_1, zl_0, zl_1, l0, l1, c0, b3, f1, mm, dk, -List.filter_filter, -List.getElem?_map, -List.getD_eq_getElem?_getD]
theorem m74 (d : Nat) (h : CS w N Ds T U clm cf lf) (k : Int) (kr : -2147483648 ≤ k ∧ k < 2147483648) : Xc (d + 2) 74 [.ref 3, .int (iZ k)] (hp w N) (some (.int (iZ (if inC Ds k = true then ((flt (cl1 Ds k)).length : Int) else -1))), hp w N) := by
  obtain ⟨a1, a2⟩ := m81 d h k kr
  have c0 := h.1
  have hN := h.2.2.2.2.2.2.2.2.2.2.2.1
  refine Xc.of rfl (by simp [lg_sl, Value.category]) ?_ (x_le.rf)
  have hc : c1 (lv_args 0 [.ref 3, .int (iZ k)]) := by simp [c1, lv_args, Value.category]
  have l0 : x_lk (lv_args 0 [.ref 3, .int (iZ k)]) 0 = some (.ref 3) := rfl
  have l1 : x_lk (lv_args 0 [.ref 3, .int (iZ k)]) 1 = some (.int (iZ k)) := rfl
  generalize lv_args 0 [.ref 3, .int (iZ k)] = lv at hc l0 l1
  cases hi : inC Ds k with
  | false =>
    rw [if_neg (by decide)]
    refine Gx.fin 20 (a1 hi) (fun X mm => ?_)
    simp (disch := first | (refine c1_id ?_; assumption) | (refine c1_st rfl ?_; repeat (first | assumption | refine c1_st rfl ?_)) | omega) [nx_l, nx_r, nx_n, x_st, x_push, x_bin, x_div, x_un, x_dup, x_pop, x_dup2, x_goto, x_ifeq, x_ifne, x_iflt, x_ifge, x_ifgt, x_ifle, x_iceq, x_icne, x_iclt, x_icge, x_icgt, x_icle, x_ifnull, x_ifnonnull, x_ldi, x_lda, x_sti, x_sta, x_iinc, x_gf, x_pf, x_ald, x_ast, x_aln, x_len, x_cl_, x_cv, x_cs, x_rc, x_r0, x_isT, x_oi, x_rv, x_ri, x_ra, Value.category, t74_0, t74_1, t74_2, t74_5, t74_6, t74_7, t74_10, t74_11, t74_14, t74_15, t74_18, t74_21, lk_s, hp_get, hp_set, uH_at, uH_ne, uH_upd, uH_swap, iZ_add, iZ_sub, iZ_mul, iZ_neg, iZ_lt, iZ_le, iZ_eq, iZ_div, iZ_of, ix_Z, gZ_map, gZ_mapI, gZ_map', le_0, le_s, sZ_map, sZ_len, bZ_0, bZ_inj, bZ_t, bZ_f, nr_i, nr_0, nr_1, nr_b, ft_i, ft_b, ft_0, ft_1, zl_0, zl_1, l0, l1, c0, mm, dk, -List.filter_filter, -List.getElem?_map, -List.getD_eq_getElem?_getD]
  | true =>
    rw [if_pos rfl]
    obtain ⟨n, ⟨t, S, E, B, b1, b2, b3, b4, b5⟩, X⟩ := a2 hi
    have f1 := b4.1.1
    refine Gx.fin 20 X (fun X mm => ?_)
    have ecl : (flt (cl1 Ds k)).length = (flt (cl Ds k.toNat).1).length := rfl
    rw [ecl]
    simp (disch := first | (refine c1_id ?_; assumption) | (refine c1_st rfl ?_; repeat (first | assumption | refine c1_st rfl ?_)) | omega) [nx_l, nx_r, nx_n, x_st, x_push, x_bin, x_div, x_un, x_dup, x_pop, x_dup2, x_goto, x_ifeq, x_ifne, x_iflt, x_ifge, x_ifgt, x_ifle, x_iceq, x_icne, x_iclt, x_icge, x_icgt, x_icle, x_ifnull, x_ifnonnull, x_ldi, x_lda, x_sti, x_sta, x_iinc, x_gf, x_pf, x_ald, x_ast, x_aln, x_len, x_cl_, x_cv, x_cs, x_rc, x_r0, x_isT, x_oi, x_rv, x_ri, x_ra, Value.category, t74_0, t74_1, t74_2, t74_5, t74_6, t74_7, t74_10, t74_11, t74_14, t74_15, t74_18, t74_21, lk_s, hp_get, hp_set, uH_at, uH_ne, uH_upd, uH_swap, iZ_add, iZ_sub, iZ_mul, iZ_neg, iZ_lt, iZ_le, iZ_eq, iZ_div, iZ_of, ix_Z, gZ_map, gZ_mapI, gZ_map', le_0, le_s, sZ_map, sZ_len, bZ_0, bZ_inj, bZ_t, bZ_f, nr_i, nr_0, nr_1, nr_b, ft_i, ft_b, ft_0, ft_1, zl_0, zl_1, l0, l1, c0, b3, f1, mm, dk, -List.filter_filter, -List.getElem?_map, -List.getD_eq_getElem?_getD]
theorem m76 (d : Nat) (h : CS w N Ds T U clm cf lf) (k : Int) (kr : -2147483648 ≤ k ∧ k < 2147483648) : Xc (d + 2) 76 [.ref 3, .int (iZ k)] (hp w N) (some (.int (iZ (if inC Ds k = true then (cl Ds k.toNat).2.2.1 else -1))), hp w N) := by
  obtain ⟨a1, a2⟩ := m81 d h k kr
  have c0 := h.1
  have hN := h.2.2.2.2.2.2.2.2.2.2.2.1
  refine Xc.of rfl (by simp [lg_sl, Value.category]) ?_ (x_le.rf)
  have hc : c1 (lv_args 0 [.ref 3, .int (iZ k)]) := by simp [c1, lv_args, Value.category]
  have l0 : x_lk (lv_args 0 [.ref 3, .int (iZ k)]) 0 = some (.ref 3) := rfl
  have l1 : x_lk (lv_args 0 [.ref 3, .int (iZ k)]) 1 = some (.int (iZ k)) := rfl
  generalize lv_args 0 [.ref 3, .int (iZ k)] = lv at hc l0 l1
  cases hi : inC Ds k with
  | false =>
    rw [if_neg (by decide)]
    refine Gx.fin 20 (a1 hi) (fun X mm => ?_)
    simp (disch := first | (refine c1_id ?_; assumption) | (refine c1_st rfl ?_; repeat (first | assumption | refine c1_st rfl ?_)) | omega) [nx_l, nx_r, nx_n, x_st, x_push, x_bin, x_div, x_un, x_dup, x_pop, x_dup2, x_goto, x_ifeq, x_ifne, x_iflt, x_ifge, x_ifgt, x_ifle, x_iceq, x_icne, x_iclt, x_icge, x_icgt, x_icle, x_ifnull, x_ifnonnull, x_ldi, x_lda, x_sti, x_sta, x_iinc, x_gf, x_pf, x_ald, x_ast, x_aln, x_len, x_cl_, x_cv, x_cs, x_rc, x_r0, x_isT, x_oi, x_rv, x_ri, x_ra, Value.category, t76_0, t76_1, t76_2, t76_5, t76_6, t76_7, t76_10, t76_11, t76_14, t76_15, t76_18, lk_s, hp_get, hp_set, uH_at, uH_ne, uH_upd, uH_swap, iZ_add, iZ_sub, iZ_mul, iZ_neg, iZ_lt, iZ_le, iZ_eq, iZ_div, iZ_of, ix_Z, gZ_map, gZ_mapI, gZ_map', le_0, le_s, sZ_map, sZ_len, bZ_0, bZ_inj, bZ_t, bZ_f, nr_i, nr_0, nr_1, nr_b, ft_i, ft_b, ft_0, ft_1, zl_0, zl_1, l0, l1, c0, mm, dk, -List.filter_filter, -List.getElem?_map, -List.getD_eq_getElem?_getD]
  | true =>
    rw [if_pos rfl]
    obtain ⟨n, ⟨t, S, E, B, b1, b2, b3, b4, b5⟩, X⟩ := a2 hi
    refine Gx.fin 20 X (fun X mm => ?_)
    simp (disch := first | (refine c1_id ?_; assumption) | (refine c1_st rfl ?_; repeat (first | assumption | refine c1_st rfl ?_)) | omega) [nx_l, nx_r, nx_n, x_st, x_push, x_bin, x_div, x_un, x_dup, x_pop, x_dup2, x_goto, x_ifeq, x_ifne, x_iflt, x_ifge, x_ifgt, x_ifle, x_iceq, x_icne, x_iclt, x_icge, x_icgt, x_icle, x_ifnull, x_ifnonnull, x_ldi, x_lda, x_sti, x_sta, x_iinc, x_gf, x_pf, x_ald, x_ast, x_aln, x_len, x_cl_, x_cv, x_cs, x_rc, x_r0, x_isT, x_oi, x_rv, x_ri, x_ra, Value.category, t76_0, t76_1, t76_2, t76_5, t76_6, t76_7, t76_10, t76_11, t76_14, t76_15, t76_18, lk_s, hp_get, hp_set, uH_at, uH_ne, uH_upd, uH_swap, iZ_add, iZ_sub, iZ_mul, iZ_neg, iZ_lt, iZ_le, iZ_eq, iZ_div, iZ_of, ix_Z, gZ_map, gZ_mapI, gZ_map', le_0, le_s, sZ_map, sZ_len, bZ_0, bZ_inj, bZ_t, bZ_f, nr_i, nr_0, nr_1, nr_b, ft_i, ft_b, ft_0, ft_1, zl_0, zl_1, l0, l1, c0, b3, mm, dk, -List.filter_filter, -List.getElem?_map, -List.getD_eq_getElem?_getD]
theorem m75 (d : Nat) (h : CS w N Ds T U clm cf lf) (k i : Int) (kr : -2147483648 ≤ k ∧ k < 2147483648) (ir : -2147483648 ≤ i ∧ i < 2147483648) : Xc (d + 5) 75 [.ref 3, .int (iZ k), .int (iZ i)] (hp w N) (some (.int (iZ (if inC Ds k = true ∧ 0 ≤ i then ltr (cl1 Ds k) i else -1))), hp w N) := by
  obtain ⟨a1, a2⟩ := m81 (d + 3) h k kr
  have c0 := h.1
  have hN := h.2.2.2.2.2.2.2.2.2.2.2.1
  refine Xc.of rfl (by simp [lg_sl, Value.category]) ?_ (x_le.rf)
  have hc : c1 (lv_args 0 [.ref 3, .int (iZ k), .int (iZ i)]) := by simp [c1, lv_args, Value.category]
  have l0 : x_lk (lv_args 0 [.ref 3, .int (iZ k), .int (iZ i)]) 0 = some (.ref 3) := rfl
  have l1 : x_lk (lv_args 0 [.ref 3, .int (iZ k), .int (iZ i)]) 1 = some (.int (iZ k)) := rfl
  have l2 : x_lk (lv_args 0 [.ref 3, .int (iZ k), .int (iZ i)]) 2 = some (.int (iZ i)) := rfl
  generalize lv_args 0 [.ref 3, .int (iZ k), .int (iZ i)] = lv at hc l0 l1 l2
  cases hi : inC Ds k with
  | false =>
    rw [if_neg (fun z => by cases z.1)]
    refine Gx.fin 20 (a1 hi) (fun X mm => ?_)
    simp (disch := first | (refine c1_id ?_; assumption) | (refine c1_st rfl ?_; repeat (first | assumption | refine c1_st rfl ?_)) | omega) [nx_l, nx_r, nx_n, x_st, x_push, x_bin, x_div, x_un, x_dup, x_pop, x_dup2, x_goto, x_ifeq, x_ifne, x_iflt, x_ifge, x_ifgt, x_ifle, x_iceq, x_icne, x_iclt, x_icge, x_icgt, x_icle, x_ifnull, x_ifnonnull, x_ldi, x_lda, x_sti, x_sta, x_iinc, x_gf, x_pf, x_ald, x_ast, x_aln, x_len, x_cl_, x_cv, x_cs, x_rc, x_r0, x_isT, x_oi, x_rv, x_ri, x_ra, Value.category, t75_0, t75_1, t75_2, t75_5, t75_6, t75_7, t75_10, t75_11, t75_14, t75_15, t75_16, t75_19, t75_22, t75_25, t75_26, t75_27, t75_28, t75_31, t75_32, t75_35, lk_s, hp_get, hp_set, uH_at, uH_ne, uH_upd, uH_swap, iZ_add, iZ_sub, iZ_mul, iZ_neg, iZ_lt, iZ_le, iZ_eq, iZ_div, iZ_of, ix_Z, gZ_map, gZ_mapI, gZ_map', le_0, le_s, sZ_map, sZ_len, bZ_0, bZ_inj, bZ_t, bZ_f, nr_i, nr_0, nr_1, nr_b, ft_i, ft_b, ft_0, ft_1, zl_0, zl_1, l0, l1, l2, c0, mm, dk, -List.filter_filter, -List.getElem?_map, -List.getD_eq_getElem?_getD]
  | true =>
    obtain ⟨n, ⟨t, S, E, B, b1, b2, b3, b4, b5⟩, X⟩ := a2 hi
    by_cases i0 : i < 0
    · rw [if_neg (fun z => by omega)]
      refine Gx.fin 30 X (fun X mm => ?_)
      simp (disch := first | (refine c1_id ?_; assumption) | (refine c1_st rfl ?_; repeat (first | assumption | refine c1_st rfl ?_)) | omega) [nx_l, nx_r, nx_n, x_st, x_push, x_bin, x_div, x_un, x_dup, x_pop, x_dup2, x_goto, x_ifeq, x_ifne, x_iflt, x_ifge, x_ifgt, x_ifle, x_iceq, x_icne, x_iclt, x_icge, x_icgt, x_icle, x_ifnull, x_ifnonnull, x_ldi, x_lda, x_sti, x_sta, x_iinc, x_gf, x_pf, x_ald, x_ast, x_aln, x_len, x_cl_, x_cv, x_cs, x_rc, x_r0, x_isT, x_oi, x_rv, x_ri, x_ra, Value.category, t75_0, t75_1, t75_2, t75_5, t75_6, t75_7, t75_10, t75_11, t75_14, t75_15, t75_16, t75_19, t75_22, t75_25, t75_26, t75_27, t75_28, t75_31, t75_32, t75_35, lk_s, hp_get, hp_set, uH_at, uH_ne, uH_upd, uH_swap, iZ_add, iZ_sub, iZ_mul, iZ_neg, iZ_lt, iZ_le, iZ_eq, iZ_div, iZ_of, ix_Z, gZ_map, gZ_mapI, gZ_map', le_0, le_s, sZ_map, sZ_len, bZ_0, bZ_inj, bZ_t, bZ_f, nr_i, nr_0, nr_1, nr_b, ft_i, ft_b, ft_0, ft_1, zl_0, zl_1, l0, l1, l2, c0, b3, i0, mm, dk, -List.filter_filter, -List.getElem?_map, -List.getD_eq_getElem?_getD]
    · rw [if_pos ⟨rfl, by omega⟩]
      have Y := m150 (d + 2) b5
      have l9 : (txC (cl Ds k.toNat).1).length < 300 := by
        rcases b5 with ⟨_, e⟩ | ⟨s, v, _, _, _, _, _, _, _, _, e⟩
        · rw [e]; decide
        · exact e
      have kind : t = 0 ∨ ∃ s, t = s + 3 ∧ s < N ∧ ∃ v, w s = sO v := by
        rcases b5 with ⟨e, _⟩ | ⟨s, v, e, _, e2, _, _, e3, _⟩
        · exact Or.inl e
        · exact Or.inr ⟨s, e, e2, v, e3⟩
      show Gx q_k75 (d + 4) 0 (lv, [], hp w N) (some (.int (iZ (ltr (cl Ds k.toNat).1 i))), hp w N)
      unfold ltr
      obtain ⟨q, hq⟩ : ∃ q : Int, q = ((txC (cl Ds k.toNat).1).length : Int) := ⟨_, rfl⟩
      rw [← hq] at Y ⊢
      have q9 : q < 300 := by omega
      have q0 : 0 ≤ q := by omega
      by_cases i1 : i < q
      · rw [if_pos i1]
        have Z := m152 d b5 i (by omega) (by omega)
        refine Gx.fin 40 ((X.and Y).and Z) (fun X mm => ?_)
        obtain ⟨⟨mm1, mm2⟩, mm3⟩ := mm
        rcases kind with rfl | ⟨s, rfl, sN, v, hs⟩
        · simp (disch := first | (refine c1_id ?_; assumption) | (refine c1_st rfl ?_; repeat (first | assumption | refine c1_st rfl ?_)) | omega) [nx_l, nx_r, nx_n, x_st, x_push, x_bin, x_div, x_un, x_dup, x_pop, x_dup2, x_goto, x_ifeq, x_ifne, x_iflt, x_ifge, x_ifgt, x_ifle, x_iceq, x_icne, x_iclt, x_icge, x_icgt, x_icle, x_ifnull, x_ifnonnull, x_ldi, x_lda, x_sti, x_sta, x_iinc, x_gf, x_pf, x_ald, x_ast, x_aln, x_len, x_cl_, x_cv, x_cs, x_rc, x_r0, x_isT, x_oi, x_rv, x_ri, x_ra, Value.category, t75_0, t75_1, t75_2, t75_5, t75_6, t75_7, t75_10, t75_11, t75_14, t75_15, t75_16, t75_19, t75_22, t75_25, t75_26, t75_27, t75_28, t75_31, t75_32, t75_35, lk_s, hp_get, hp_set, uH_at, uH_ne, uH_upd, uH_swap, iZ_add, iZ_sub, iZ_mul, iZ_neg, iZ_lt, iZ_le, iZ_eq, iZ_div, iZ_of, ix_Z, gZ_map, gZ_mapI, gZ_map', le_0, le_s, sZ_map, sZ_len, bZ_0, bZ_inj, bZ_t, bZ_f, nr_i, nr_0, nr_1, nr_b, ft_i, ft_b, ft_0, ft_1, zl_0, zl_1, l0, l1, l2, c0, b3, i0, i1, rH_0, rH2_0, x_cvH, mm1, mm2, mm3, dk, -List.filter_filter, -List.getElem?_map, -List.getD_eq_getElem?_getD]
        · simp (disch := first | (refine c1_id ?_; assumption) | (refine c1_st rfl ?_; repeat (first | assumption | refine c1_st rfl ?_)) | omega) [nx_l, nx_r, nx_n, x_st, x_push, x_bin, x_div, x_un, x_dup, x_pop, x_dup2, x_goto, x_ifeq, x_ifne, x_iflt, x_ifge, x_ifgt, x_ifle, x_iceq, x_icne, x_iclt, x_icge, x_icgt, x_icle, x_ifnull, x_ifnonnull, x_ldi, x_lda, x_sti, x_sta, x_iinc, x_gf, x_pf, x_ald, x_ast, x_aln, x_len, x_cl_, x_cv, x_cs, x_rc, x_r0, x_isT, x_oi, x_rv, x_ri, x_ra, Value.category, t75_0, t75_1, t75_2, t75_5, t75_6, t75_7, t75_10, t75_11, t75_14, t75_15, t75_16, t75_19, t75_22, t75_25, t75_26, t75_27, t75_28, t75_31, t75_32, t75_35, lk_s, hp_get, hp_set, uH_at, uH_ne, uH_upd, uH_swap, iZ_add, iZ_sub, iZ_mul, iZ_neg, iZ_lt, iZ_le, iZ_eq, iZ_div, iZ_of, ix_Z, gZ_map, gZ_mapI, gZ_map', le_0, le_s, sZ_map, sZ_len, bZ_0, bZ_inj, bZ_t, bZ_f, nr_i, nr_0, nr_1, nr_b, ft_i, ft_b, ft_0, ft_1, zl_0, zl_1, l0, l1, l2, c0, b3, i0, i1, rH_s, rH2_s, x_cvH, hs, mm1, mm2, mm3, dk, sO, -List.filter_filter, -List.getElem?_map, -List.getD_eq_getElem?_getD]
      · rw [if_neg i1]
        refine Gx.fin 40 (X.and Y) (fun X mm => ?_)
        obtain ⟨mm1, mm2⟩ := mm
        rcases kind with rfl | ⟨s, rfl, sN, v, hs⟩
        · simp (disch := first | (refine c1_id ?_; assumption) | (refine c1_st rfl ?_; repeat (first | assumption | refine c1_st rfl ?_)) | omega) [nx_l, nx_r, nx_n, x_st, x_push, x_bin, x_div, x_un, x_dup, x_pop, x_dup2, x_goto, x_ifeq, x_ifne, x_iflt, x_ifge, x_ifgt, x_ifle, x_iceq, x_icne, x_iclt, x_icge, x_icgt, x_icle, x_ifnull, x_ifnonnull, x_ldi, x_lda, x_sti, x_sta, x_iinc, x_gf, x_pf, x_ald, x_ast, x_aln, x_len, x_cl_, x_cv, x_cs, x_rc, x_r0, x_isT, x_oi, x_rv, x_ri, x_ra, Value.category, t75_0, t75_1, t75_2, t75_5, t75_6, t75_7, t75_10, t75_11, t75_14, t75_15, t75_16, t75_19, t75_22, t75_25, t75_26, t75_27, t75_28, t75_31, t75_32, t75_35, lk_s, hp_get, hp_set, uH_at, uH_ne, uH_upd, uH_swap, iZ_add, iZ_sub, iZ_mul, iZ_neg, iZ_lt, iZ_le, iZ_eq, iZ_div, iZ_of, ix_Z, gZ_map, gZ_mapI, gZ_map', le_0, le_s, sZ_map, sZ_len, bZ_0, bZ_inj, bZ_t, bZ_f, nr_i, nr_0, nr_1, nr_b, ft_i, ft_b, ft_0, ft_1, zl_0, zl_1, l0, l1, l2, c0, b3, i0, i1, rH_0, rH2_0, x_cvH, mm1, mm2, dk, -List.filter_filter, -List.getElem?_map, -List.getD_eq_getElem?_getD]
        · simp (disch := first | (refine c1_id ?_; assumption) | (refine c1_st rfl ?_; repeat (first | assumption | refine c1_st rfl ?_)) | omega) [nx_l, nx_r, nx_n, x_st, x_push, x_bin, x_div, x_un, x_dup, x_pop, x_dup2, x_goto, x_ifeq, x_ifne, x_iflt, x_ifge, x_ifgt, x_ifle, x_iceq, x_icne, x_iclt, x_icge, x_icgt, x_icle, x_ifnull, x_ifnonnull, x_ldi, x_lda, x_sti, x_sta, x_iinc, x_gf, x_pf, x_ald, x_ast, x_aln, x_len, x_cl_, x_cv, x_cs, x_rc, x_r0, x_isT, x_oi, x_rv, x_ri, x_ra, Value.category, t75_0, t75_1, t75_2, t75_5, t75_6, t75_7, t75_10, t75_11, t75_14, t75_15, t75_16, t75_19, t75_22, t75_25, t75_26, t75_27, t75_28, t75_31, t75_32, t75_35, lk_s, hp_get, hp_set, uH_at, uH_ne, uH_upd, uH_swap, iZ_add, iZ_sub, iZ_mul, iZ_neg, iZ_lt, iZ_le, iZ_eq, iZ_div, iZ_of, ix_Z, gZ_map, gZ_mapI, gZ_map', le_0, le_s, sZ_map, sZ_len, bZ_0, bZ_inj, bZ_t, bZ_f, nr_i, nr_0, nr_1, nr_b, ft_i, ft_b, ft_0, ft_1, zl_0, zl_1, l0, l1, l2, c0, b3, i0, i1, rH_s, rH2_s, x_cvH, hs, mm1, mm2, dk, sO, -List.filter_filter, -List.getElem?_map, -List.getD_eq_getElem?_getD]
theorem m77 (d : Nat) (h : CS w N Ds T U clm cf lf) (k b : Int) (kr : -2147483648 ≤ k ∧ k < 2147483648) (br : -2147483648 ≤ b ∧ b < 2147483648) : Xc (d + 2) 77 [.ref 3, .int (iZ k), .int (iZ b)] (hp w N) (some (.int (iZ (bZ (inC Ds k && inC Ds b && bt (cl Ds k.toNat).2.2.2 b)))), hp w N) := by
  obtain ⟨a1, a2⟩ := m81 d h k kr
  have c0 := h.1
  have c30 := h.2.1
  have hN := h.2.2.2.2.2.2.2.2.2.2.2.1
  refine Xc.of rfl (by simp [lg_sl, Value.category]) ?_ (x_le.rf)
  have hc : c1 (lv_args 0 [.ref 3, .int (iZ k), .int (iZ b)]) := by simp [c1, lv_args, Value.category]
  have l0 : x_lk (lv_args 0 [.ref 3, .int (iZ k), .int (iZ b)]) 0 = some (.ref 3) := rfl
  have l1 : x_lk (lv_args 0 [.ref 3, .int (iZ k), .int (iZ b)]) 1 = some (.int (iZ k)) := rfl
  have l2 : x_lk (lv_args 0 [.ref 3, .int (iZ k), .int (iZ b)]) 2 = some (.int (iZ b)) := rfl
  generalize lv_args 0 [.ref 3, .int (iZ k), .int (iZ b)] = lv at hc l0 l1 l2
  cases hi : inC Ds k with
  | false =>
    rw [Bool.false_and, Bool.false_and, bZ_f]
    refine Gx.fin 20 (a1 hi) (fun X mm => ?_)
    simp (disch := first | (refine c1_id ?_; assumption) | (refine c1_st rfl ?_; repeat (first | assumption | refine c1_st rfl ?_)) | omega) [nx_l, nx_r, nx_n, x_st, x_push, x_bin, x_div, x_un, x_dup, x_pop, x_dup2, x_goto, x_ifeq, x_ifne, x_iflt, x_ifge, x_ifgt, x_ifle, x_iceq, x_icne, x_iclt, x_icge, x_icgt, x_icle, x_ifnull, x_ifnonnull, x_ldi, x_lda, x_sti, x_sta, x_iinc, x_gf, x_pf, x_ald, x_ast, x_aln, x_len, x_cl_, x_cv, x_cs, x_rc, x_r0, x_isT, x_oi, x_rv, x_ri, x_ra, Value.category, t77_0, t77_1, t77_2, t77_5, t77_6, t77_7, t77_10, t77_11, t77_14, t77_15, t77_16, t77_19, t77_22, t77_23, t77_24, t77_25, t77_28, t77_29, t77_30, t77_31, t77_32, t77_33, t77_36, t77_37, t77_40, t77_41, lk_s, hp_get, hp_set, uH_at, uH_ne, uH_upd, uH_swap, iZ_add, iZ_sub, iZ_mul, iZ_neg, iZ_lt, iZ_le, iZ_eq, iZ_div, iZ_of, ix_Z, gZ_map, gZ_mapI, gZ_map', le_0, le_s, sZ_map, sZ_len, bZ_0, bZ_inj, bZ_t, bZ_f, nr_i, nr_0, nr_1, nr_b, ft_i, ft_b, ft_0, ft_1, zl_0, zl_1, l0, l1, l2, c0, mm, dk, -List.filter_filter, -List.getElem?_map, -List.getD_eq_getElem?_getD]
  | true =>
    obtain ⟨n, ⟨t, S, E, B, b1, b2, b3, b4, b5⟩, X⟩ := a2 hi
    rw [Bool.true_and]
    obtain ⟨cnt, hcnt⟩ : ∃ cnt : Int, cnt = (Ds.length : Int) := ⟨_, rfl⟩
    rw [← hcnt] at c0
    have cnt0 : 0 ≤ cnt := by omega
    have cnt9 : cnt ≤ 30 := by omega
    cases hb : inC Ds b with
    | false =>
      rw [Bool.false_and, bZ_f]
      unfold inC at hb
      have hb : ¬ (0 ≤ b ∧ b < Ds.length) := by simpa using hb
      refine Gx.fin 40 X (fun X mm => ?_)
      by_cases k0 : b < 0
      · simp (disch := first | (refine c1_id ?_; assumption) | (refine c1_st rfl ?_; repeat (first | assumption | refine c1_st rfl ?_)) | omega) [nx_l, nx_r, nx_n, x_st, x_push, x_bin, x_div, x_un, x_dup, x_pop, x_dup2, x_goto, x_ifeq, x_ifne, x_iflt, x_ifge, x_ifgt, x_ifle, x_iceq, x_icne, x_iclt, x_icge, x_icgt, x_icle, x_ifnull, x_ifnonnull, x_ldi, x_lda, x_sti, x_sta, x_iinc, x_gf, x_pf, x_ald, x_ast, x_aln, x_len, x_cl_, x_cv, x_cs, x_rc, x_r0, x_isT, x_oi, x_rv, x_ri, x_ra, Value.category, t77_0, t77_1, t77_2, t77_5, t77_6, t77_7, t77_10, t77_11, t77_14, t77_15, t77_16, t77_19, t77_22, t77_23, t77_24, t77_25, t77_28, t77_29, t77_30, t77_31, t77_32, t77_33, t77_36, t77_37, t77_40, t77_41, lk_s, hp_get, hp_set, uH_at, uH_ne, uH_upd, uH_swap, iZ_add, iZ_sub, iZ_mul, iZ_neg, iZ_lt, iZ_le, iZ_eq, iZ_div, iZ_of, ix_Z, gZ_map, gZ_mapI, gZ_map', le_0, le_s, sZ_map, sZ_len, bZ_0, bZ_inj, bZ_t, bZ_f, nr_i, nr_0, nr_1, nr_b, ft_i, ft_b, ft_0, ft_1, zl_0, zl_1, l0, l1, l2, c0, k0, mm, dk, -List.filter_filter, -List.getElem?_map, -List.getD_eq_getElem?_getD]
      · have k1 : ¬ b < cnt := by omega
        simp (disch := first | (refine c1_id ?_; assumption) | (refine c1_st rfl ?_; repeat (first | assumption | refine c1_st rfl ?_)) | omega) [nx_l, nx_r, nx_n, x_st, x_push, x_bin, x_div, x_un, x_dup, x_pop, x_dup2, x_goto, x_ifeq, x_ifne, x_iflt, x_ifge, x_ifgt, x_ifle, x_iceq, x_icne, x_iclt, x_icge, x_icgt, x_icle, x_ifnull, x_ifnonnull, x_ldi, x_lda, x_sti, x_sta, x_iinc, x_gf, x_pf, x_ald, x_ast, x_aln, x_len, x_cl_, x_cv, x_cs, x_rc, x_r0, x_isT, x_oi, x_rv, x_ri, x_ra, Value.category, t77_0, t77_1, t77_2, t77_5, t77_6, t77_7, t77_10, t77_11, t77_14, t77_15, t77_16, t77_19, t77_22, t77_23, t77_24, t77_25, t77_28, t77_29, t77_30, t77_31, t77_32, t77_33, t77_36, t77_37, t77_40, t77_41, lk_s, hp_get, hp_set, uH_at, uH_ne, uH_upd, uH_swap, iZ_add, iZ_sub, iZ_mul, iZ_neg, iZ_lt, iZ_le, iZ_eq, iZ_div, iZ_of, ix_Z, gZ_map, gZ_mapI, gZ_map', le_0, le_s, sZ_map, sZ_len, bZ_0, bZ_inj, bZ_t, bZ_f, nr_i, nr_0, nr_1, nr_b, ft_i, ft_b, ft_0, ft_1, zl_0, zl_1, l0, l1, l2, c0, k0, k1, mm, dk, -List.filter_filter, -List.getElem?_map, -List.getD_eq_getElem?_getD]
    | true =>
      rw [Bool.true_and]
      unfold inC at hb
      have hb : 0 ≤ b ∧ b < Ds.length := by simpa using hb
      have k0 : ¬ b < 0 := by omega
      have k1 : b < cnt := by omega
      refine Gx.fin 40 X (fun X mm => ?_)
      cases hbt : bt (cl Ds k.toNat).2.2.2 b with
      | true =>
        unfold bt at hbt
        have hbt : (iZ (cl Ds k.toNat).2.2.2 >>> (iZ b &&& 31)) &&& iZ 1 = iZ 1 := of_decide_eq_true hbt
        rw [bZ_t]
        simp (disch := first | (refine c1_id ?_; assumption) | (refine c1_st rfl ?_; repeat (first | assumption | refine c1_st rfl ?_)) | omega) [nx_l, nx_r, nx_n, x_st, x_push, x_bin, x_div, x_un, x_dup, x_pop, x_dup2, x_goto, x_ifeq, x_ifne, x_iflt, x_ifge, x_ifgt, x_ifle, x_iceq, x_icne, x_iclt, x_icge, x_icgt, x_icle, x_ifnull, x_ifnonnull, x_ldi, x_lda, x_sti, x_sta, x_iinc, x_gf, x_pf, x_ald, x_ast, x_aln, x_len, x_cl_, x_cv, x_cs, x_rc, x_r0, x_isT, x_oi, x_rv, x_ri, x_ra, Value.category, t77_0, t77_1, t77_2, t77_5, t77_6, t77_7, t77_10, t77_11, t77_14, t77_15, t77_16, t77_19, t77_22, t77_23, t77_24, t77_25, t77_28, t77_29, t77_30, t77_31, t77_32, t77_33, t77_36, t77_37, t77_40, t77_41, lk_s, hp_get, hp_set, uH_at, uH_ne, uH_upd, uH_swap, iZ_add, iZ_sub, iZ_mul, iZ_neg, iZ_lt, iZ_le, iZ_eq, iZ_div, iZ_of, ix_Z, gZ_map, gZ_mapI, gZ_map', le_0, le_s, sZ_map, sZ_len, bZ_0, bZ_inj, bZ_t, bZ_f, nr_i, nr_0, nr_1, nr_b, ft_i, ft_b, ft_0, ft_1, zl_0, zl_1, l0, l1, l2, c0, b3, k0, k1, hbt, mm, dk, -List.filter_filter, -List.getElem?_map, -List.getD_eq_getElem?_getD]
      | false =>
        unfold bt at hbt
        have hbt : ¬ (iZ (cl Ds k.toNat).2.2.2 >>> (iZ b &&& 31)) &&& iZ 1 = iZ 1 := of_decide_eq_false hbt
        rw [bZ_f]
        simp (disch := first | (refine c1_id ?_; assumption) | (refine c1_st rfl ?_; repeat (first | assumption | refine c1_st rfl ?_)) | omega) [nx_l, nx_r, nx_n, x_st, x_push, x_bin, x_div, x_un, x_dup, x_pop, x_dup2, x_goto, x_ifeq, x_ifne, x_iflt, x_ifge, x_ifgt, x_ifle, x_iceq, x_icne, x_iclt, x_icge, x_icgt, x_icle, x_ifnull, x_ifnonnull, x_ldi, x_lda, x_sti, x_sta, x_iinc, x_gf, x_pf, x_ald, x_ast, x_aln, x_len, x_cl_, x_cv, x_cs, x_rc, x_r0, x_isT, x_oi, x_rv, x_ri, x_ra, Value.category, t77_0, t77_1, t77_2, t77_5, t77_6, t77_7, t77_10, t77_11, t77_14, t77_15, t77_16, t77_19, t77_22, t77_23, t77_24, t77_25, t77_28, t77_29, t77_30, t77_31, t77_32, t77_33, t77_36, t77_37, t77_40, t77_41, lk_s, hp_get, hp_set, uH_at, uH_ne, uH_upd, uH_swap, iZ_add, iZ_sub, iZ_mul, iZ_neg, iZ_lt, iZ_le, iZ_eq, iZ_div, iZ_of, ix_Z, gZ_map, gZ_mapI, gZ_map', le_0, le_s, sZ_map, sZ_len, bZ_0, bZ_inj, bZ_t, bZ_f, nr_i, nr_0, nr_1, nr_b, ft_i, ft_b, ft_0, ft_1, zl_0, zl_1, l0, l1, l2, c0, b3, k0, k1, hbt, mm, dk, -List.filter_filter, -List.getElem?_map, -List.getD_eq_getElem?_getD]
theorem l78 (d : Nat) (h : CS w N Ds T U clm cf lf) : ∀ (r k : Nat) (lv : xL), k + r = Ds.length → c1 lv → x_lk lv 0 = some (.ref 3) → x_lk lv 1 = some (.int (iZ (k : Int))) → Gx q_k78 (d + 1) 2 (lv, [], hp w N) (some (.int (iZ (rfA (Ds.drop k) k))), hp w N)
  | 0, k, lv, hk, hc, l0, l1 => by
    have c0 := h.1
    have c30 := h.2.1
    have hN := h.2.2.2.2.2.2.2.2.2.2.2.1
    rw [List.drop_eq_nil_of_le (by omega)]
    show Gx q_k78 (d + 1) 2 _ (some (.int (iZ (-1))), _)
    obtain ⟨cnt, hcnt⟩ : ∃ cnt : Int, cnt = (Ds.length : Int) := ⟨_, rfl⟩
    obtain ⟨kk, hkk⟩ : ∃ kk : Int, kk = (k : Int) := ⟨_, rfl⟩
    rw [← hcnt] at c0
    rw [← hkk] at l1
    have b1 : cnt ≤ kk := by omega
    have k0 : 0 ≤ cnt := by omega
    have k9 : kk ≤ 30 := by omega
    refine Gx.fin 20 Cs.tt (fun X _ => ?_)
    simp (disch := first | (refine c1_id ?_; assumption) | (refine c1_st rfl ?_; repeat (first | assumption | refine c1_st rfl ?_)) | omega) [nx_l, nx_r, nx_n, x_st, x_push, x_bin, x_div, x_un, x_dup, x_pop, x_dup2, x_goto, x_ifeq, x_ifne, x_iflt, x_ifge, x_ifgt, x_ifle, x_iceq, x_icne, x_iclt, x_icge, x_icgt, x_icle, x_ifnull, x_ifnonnull, x_ldi, x_lda, x_sti, x_sta, x_iinc, x_gf, x_pf, x_ald, x_ast, x_aln, x_len, x_cl_, x_cv, x_cs, x_rc, x_r0, x_isT, x_oi, x_rv, x_ri, x_ra, Value.category, t78_0, t78_1, t78_2, t78_3, t78_4, t78_7, t78_10, t78_11, t78_12, t78_15, t78_16, t78_17, t78_20, t78_21, t78_24, t78_27, t78_30, t78_31, t78_32, t78_35, t78_38, t78_39, lk_s, hp_get, hp_set, uH_at, uH_ne, uH_upd, uH_swap, iZ_add, iZ_sub, iZ_mul, iZ_neg, iZ_lt, iZ_le, iZ_eq, iZ_div, iZ_of, ix_Z, gZ_map, gZ_mapI, gZ_map', le_0, le_s, sZ_map, sZ_len, bZ_0, bZ_inj, bZ_t, bZ_f, nr_i, nr_0, nr_1, nr_b, ft_i, ft_b, ft_0, ft_1, zl_0, zl_1, l0, l1, c0, b1, dk, -List.filter_filter, -List.getElem?_map, -List.getD_eq_getElem?_getD]
  | r + 1, k, lv, hk, hc, l0, l1 => by
    have c0 := h.1
    have c30 := h.2.1
    have hN := h.2.2.2.2.2.2.2.2.2.2.2.1
    obtain ⟨a1, a2⟩ := m81 d h (k : Int) (by omega)
    obtain ⟨n, ⟨t, S, E, B, q1, q2, q3, q4, q5⟩, X⟩ := a2 (by unfold inC; simp; omega)
    rw [Int.toNat_natCast] at q3 q4
    have f1 := q4.1.1
    have d6 := q4.2.2.2.1.1
    have ed : Ds.drop k = cl Ds k :: Ds.drop (k + 1) := by
      have hkl : k < Ds.length := by omega
      rw [List.drop_eq_getElem_cons hkl]
      unfold cl
      rw [List.getD_eq_getElem?_getD, List.getElem?_eq_getElem hkl]
      rfl
    rw [ed]
    show Gx q_k78 (d + 1) 2 _ (some (.int (iZ (if (cl Ds k).1.length = 0 then (k : Int) else rfA (Ds.drop (k + 1)) ((k : Int) + 1)))), _)
    obtain ⟨cnt, hcnt⟩ : ∃ cnt : Int, cnt = (Ds.length : Int) := ⟨_, rfl⟩
    rw [← hcnt] at c0
    obtain ⟨m, hm⟩ : ∃ m : Int, m = ((cl Ds k).1.length : Int) := ⟨_, rfl⟩
    rw [← hm] at f1
    have m0 : 0 ≤ m := by omega
    have m9 : m ≤ 6 := by omega
    have C1 := c1_st (i := 1) (v := .int (iZ ((k : Int) + 1))) rfl (c1_st (i := 2) (v := .ref (n + 3)) rfl hc)
    have C2 := c1_st (i := 2) (v := .ref (n + 3)) rfl hc
    have ih := l78 d h r (k + 1) ((1, .int (iZ ((k : Int) + 1))) :: List.filter (x_keep 1) ((2, .ref (n + 3)) :: lv.filter (x_keep 2))) (by omega) C1 (by rw [lk_s C2, lk_s hc]; exact l0) (by rw [lk_s C2]; rfl)
    rw [show ((k + 1 : Nat) : Int) = (k : Int) + 1 by omega] at ih
    obtain ⟨kk, hkk⟩ : ∃ kk : Int, kk = (k : Int) := ⟨_, rfl⟩
    rw [← hkk] at l1 X ih ⊢
    have b1 : ¬ cnt ≤ kk := by omega
    have k0 : 0 ≤ kk := by omega
    have k9 : cnt ≤ 30 := by omega
    by_cases hz : (cl Ds k).1.length = 0
    · rw [if_pos hz]
      have b2 : m = 0 := by omega
      refine Gx.fin 40 X (fun X mm => ?_)
      simp (disch := first | (refine c1_id ?_; assumption) | (refine c1_st rfl ?_; repeat (first | assumption | refine c1_st rfl ?_)) | omega) [nx_l, nx_r, nx_n, x_st, x_push, x_bin, x_div, x_un, x_dup, x_pop, x_dup2, x_goto, x_ifeq, x_ifne, x_iflt, x_ifge, x_ifgt, x_ifle, x_iceq, x_icne, x_iclt, x_icge, x_icgt, x_icle, x_ifnull, x_ifnonnull, x_ldi, x_lda, x_sti, x_sta, x_iinc, x_gf, x_pf, x_ald, x_ast, x_aln, x_len, x_cl_, x_cv, x_cs, x_rc, x_r0, x_isT, x_oi, x_rv, x_ri, x_ra, Value.category, t78_0, t78_1, t78_2, t78_3, t78_4, t78_7, t78_10, t78_11, t78_12, t78_15, t78_16, t78_17, t78_20, t78_21, t78_24, t78_27, t78_30, t78_31, t78_32, t78_35, t78_38, t78_39, lk_s, hp_get, hp_set, uH_at, uH_ne, uH_upd, uH_swap, iZ_add, iZ_sub, iZ_mul, iZ_neg, iZ_lt, iZ_le, iZ_eq, iZ_div, iZ_of, ix_Z, gZ_map, gZ_mapI, gZ_map', le_0, le_s, sZ_map, sZ_len, bZ_0, bZ_inj, bZ_t, bZ_f, nr_i, nr_0, nr_1, nr_b, ft_i, ft_b, ft_0, ft_1, zl_0, zl_1, l0, l1, c0, b1, b2, q3, f1, mm, dk, -List.filter_filter, -List.getElem?_map, -List.getD_eq_getElem?_getD]
    · rw [if_neg hz]
      have b2 : ¬ m = 0 := by omega
      refine Gx.run 40 X (fun X mm => ?_) (Gx.run (pc := 35) (z := ((1, .int (iZ (kk + 1))) :: List.filter (x_keep 1) ((2, .ref (n + 3)) :: lv.filter (x_keep 2)), [], hp w N)) 5 Cs.tt (fun X _ => ?_) ih)
      · simp (disch := first | (refine c1_id ?_; assumption) | (refine c1_st rfl ?_; repeat (first | assumption | refine c1_st rfl ?_)) | omega) [nx_l, nx_r, nx_n, x_st, x_push, x_bin, x_div, x_un, x_dup, x_pop, x_dup2, x_goto, x_ifeq, x_ifne, x_iflt, x_ifge, x_ifgt, x_ifle, x_iceq, x_icne, x_iclt, x_icge, x_icgt, x_icle, x_ifnull, x_ifnonnull, x_ldi, x_lda, x_sti, x_sta, x_iinc, x_gf, x_pf, x_ald, x_ast, x_aln, x_len, x_cl_, x_cv, x_cs, x_rc, x_r0, x_isT, x_oi, x_rv, x_ri, x_ra, Value.category, t78_0, t78_1, t78_2, t78_3, t78_4, t78_7, t78_10, t78_11, t78_12, t78_15, t78_16, t78_17, t78_20, t78_21, t78_24, t78_27, t78_30, t78_31, t78_32, t78_35, t78_38, t78_39, lk_s, hp_get, hp_set, uH_at, uH_ne, uH_upd, uH_swap, iZ_add, iZ_sub, iZ_mul, iZ_neg, iZ_lt, iZ_le, iZ_eq, iZ_div, iZ_of, ix_Z, gZ_map, gZ_mapI, gZ_map', le_0, le_s, sZ_map, sZ_len, bZ_0, bZ_inj, bZ_t, bZ_f, nr_i, nr_0, nr_1, nr_b, ft_i, ft_b, ft_0, ft_1, zl_0, zl_1, l0, l1, c0, b1, b2, q3, f1, mm, dk, -List.filter_filter, -List.getElem?_map, -List.getD_eq_getElem?_getD]
      · simp (disch := first | (refine c1_id ?_; assumption) | (refine c1_st rfl ?_; repeat (first | assumption | refine c1_st rfl ?_)) | omega) [nx_l, nx_r, nx_n, x_st, x_push, x_bin, x_div, x_un, x_dup, x_pop, x_dup2, x_goto, x_ifeq, x_ifne, x_iflt, x_ifge, x_ifgt, x_ifle, x_iceq, x_icne, x_iclt, x_icge, x_icgt, x_icle, x_ifnull, x_ifnonnull, x_ldi, x_lda, x_sti, x_sta, x_iinc, x_gf, x_pf, x_ald, x_ast, x_aln, x_len, x_cl_, x_cv, x_cs, x_rc, x_r0, x_isT, x_oi, x_rv, x_ri, x_ra, Value.category, t78_0, t78_1, t78_2, t78_3, t78_4, t78_7, t78_10, t78_11, t78_12, t78_15, t78_16, t78_17, t78_20, t78_21, t78_24, t78_27, t78_30, t78_31, t78_32, t78_35, t78_38, t78_39, lk_s, hp_get, hp_set, uH_at, uH_ne, uH_upd, uH_swap, iZ_add, iZ_sub, iZ_mul, iZ_neg, iZ_lt, iZ_le, iZ_eq, iZ_div, iZ_of, ix_Z, gZ_map, gZ_mapI, gZ_map', le_0, le_s, sZ_map, sZ_len, bZ_0, bZ_inj, bZ_t, bZ_f, nr_i, nr_0, nr_1, nr_b, ft_i, ft_b, ft_0, ft_1, zl_0, zl_1, -List.filter_filter, -List.getElem?_map, -List.getD_eq_getElem?_getD]
theorem m78 (d : Nat) (h : CS w N Ds T U clm cf lf) : Xc (d + 2) 78 [.ref 3] (hp w N) (some (.int (iZ (rfA Ds 0))), hp w N) := by
  refine Xc.of rfl (by simp [lg_sl, Value.category]) ?_ (x_le.rf)
  have hc : c1 (lv_args 0 [.ref 3]) := by simp [c1, lv_args, Value.category]
  have l0 : x_lk (lv_args 0 [.ref 3]) 0 = some (.ref 3) := rfl
  generalize lv_args 0 [.ref 3] = lv at hc l0
  have C1 := c1_st (i := 1) (v := .int (iZ 0)) rfl hc
  have g := l78 d h Ds.length 0 ((1, .int (iZ 0)) :: lv.filter (x_keep 1)) (by omega) C1 (by rw [lk_s hc]; exact l0) (by rw [lk_s hc]; rfl)
  rw [List.drop_zero] at g
  refine Gx.run 10 Cs.tt (fun X _ => ?_) g
  simp (disch := first | (refine c1_id ?_; assumption) | (refine c1_st rfl ?_; repeat (first | assumption | refine c1_st rfl ?_)) | omega) [nx_l, nx_r, nx_n, x_st, x_push, x_bin, x_div, x_un, x_dup, x_pop, x_dup2, x_goto, x_ifeq, x_ifne, x_iflt, x_ifge, x_ifgt, x_ifle, x_iceq, x_icne, x_iclt, x_icge, x_icgt, x_icle, x_ifnull, x_ifnonnull, x_ldi, x_lda, x_sti, x_sta, x_iinc, x_gf, x_pf, x_ald, x_ast, x_aln, x_len, x_cl_, x_cv, x_cs, x_rc, x_r0, x_isT, x_oi, x_rv, x_ri, x_ra, Value.category, t78_0, t78_1, t78_2, t78_3, t78_4, t78_7, t78_10, t78_11, t78_12, t78_15, t78_16, t78_17, t78_20, t78_21, t78_24, t78_27, t78_30, t78_31, t78_32, t78_35, t78_38, t78_39, lk_s, hp_get, hp_set, uH_at, uH_ne, uH_upd, uH_swap, iZ_add, iZ_sub, iZ_mul, iZ_neg, iZ_lt, iZ_le, iZ_eq, iZ_div, iZ_of, ix_Z, gZ_map, gZ_mapI, gZ_map', le_0, le_s, sZ_map, sZ_len, bZ_0, bZ_inj, bZ_t, bZ_f, nr_i, nr_0, nr_1, nr_b, ft_i, ft_b, ft_0, ft_1, zl_0, zl_1, -List.filter_filter, -List.getElem?_map, -List.getD_eq_getElem?_getD]
theorem m79 (d : Nat) (h : CS w N Ds T U clm cf lf) (k : Int) (kr : -2147483648 ≤ k ∧ k < 2147483648) : Xc (d + 5) 79 [.ref 3, .int (iZ k)] (hp w N) (some (.int (iZ (bZ (inC Ds k && trO (cl1 Ds k) (cl1 Ds k).length 0 false)))), hp w N) := by
  obtain ⟨a1, a2⟩ := m81 (d + 3) h k kr
  have c0 := h.1
  have hN := h.2.2.2.2.2.2.2.2.2.2.2.1
  refine Xc.of rfl (by simp [lg_sl, Value.category]) ?_ (x_le.rf)
  have hc : c1 (lv_args 0 [.ref 3, .int (iZ k)]) := by simp [c1, lv_args, Value.category]
  have l0 : x_lk (lv_args 0 [.ref 3, .int (iZ k)]) 0 = some (.ref 3) := rfl
  have l1 : x_lk (lv_args 0 [.ref 3, .int (iZ k)]) 1 = some (.int (iZ k)) := rfl
  generalize lv_args 0 [.ref 3, .int (iZ k)] = lv at hc l0 l1
  cases hi : inC Ds k with
  | false =>
    rw [Bool.false_and, bZ_f]
    refine Gx.fin 20 (a1 hi) (fun X mm => ?_)
    simp (disch := first | (refine c1_id ?_; assumption) | (refine c1_st rfl ?_; repeat (first | assumption | refine c1_st rfl ?_)) | omega) [nx_l, nx_r, nx_n, x_st, x_push, x_bin, x_div, x_un, x_dup, x_pop, x_dup2, x_goto, x_ifeq, x_ifne, x_iflt, x_ifge, x_ifgt, x_ifle, x_iceq, x_icne, x_iclt, x_icge, x_icgt, x_icle, x_ifnull, x_ifnonnull, x_ldi, x_lda, x_sti, x_sta, x_iinc, x_gf, x_pf, x_ald, x_ast, x_aln, x_len, x_cl_, x_cv, x_cs, x_rc, x_r0, x_isT, x_oi, x_rv, x_ri, x_ra, Value.category, t79_0, t79_1, t79_2, t79_5, t79_6, t79_7, t79_10, t79_11, t79_14, t79_17, t79_20, t79_21, t79_24, t79_25, lk_s, hp_get, hp_set, uH_at, uH_ne, uH_upd, uH_swap, iZ_add, iZ_sub, iZ_mul, iZ_neg, iZ_lt, iZ_le, iZ_eq, iZ_div, iZ_of, ix_Z, gZ_map, gZ_mapI, gZ_map', le_0, le_s, sZ_map, sZ_len, bZ_0, bZ_inj, bZ_t, bZ_f, nr_i, nr_0, nr_1, nr_b, ft_i, ft_b, ft_0, ft_1, zl_0, zl_1, l0, l1, c0, mm, dk, -List.filter_filter, -List.getElem?_map, -List.getD_eq_getElem?_getD]
  | true =>
    rw [Bool.true_and]
    obtain ⟨n, ⟨t, S, E, B, b1, b2, b3, b4, b5⟩, X⟩ := a2 hi
    obtain ⟨G1, G2, G3, G4, G5, G6, G7⟩ := b4
    have Y := m24 (N := N) d G1 G2 G3 G4.gv (fun y hy => (G4.2.2 y hy).2.1) G5 G6 G7
    show Gx q_k79 (d + 4) 0 (lv, [], hp w N) (some (.int (iZ (bZ (trO (cl Ds k.toNat).1 (cl Ds k.toNat).1.length 0 false)))), hp w N)
    generalize trO (cl Ds k.toNat).1 (cl Ds k.toNat).1.length 0 false = bb at Y ⊢
    have f1 := G1.1
    refine Gx.fin 30 (X.and Y) (fun X mm => ?_)
    obtain ⟨mm1, mm2⟩ := mm
    cases bb with
    | true =>
      rw [bZ_t] at mm2 ⊢
      simp (disch := first | (refine c1_id ?_; assumption) | (refine c1_st rfl ?_; repeat (first | assumption | refine c1_st rfl ?_)) | omega) [nx_l, nx_r, nx_n, x_st, x_push, x_bin, x_div, x_un, x_dup, x_pop, x_dup2, x_goto, x_ifeq, x_ifne, x_iflt, x_ifge, x_ifgt, x_ifle, x_iceq, x_icne, x_iclt, x_icge, x_icgt, x_icle, x_ifnull, x_ifnonnull, x_ldi, x_lda, x_sti, x_sta, x_iinc, x_gf, x_pf, x_ald, x_ast, x_aln, x_len, x_cl_, x_cv, x_cs, x_rc, x_r0, x_isT, x_oi, x_rv, x_ri, x_ra, Value.category, t79_0, t79_1, t79_2, t79_5, t79_6, t79_7, t79_10, t79_11, t79_14, t79_17, t79_20, t79_21, t79_24, t79_25, lk_s, hp_get, hp_set, uH_at, uH_ne, uH_upd, uH_swap, iZ_add, iZ_sub, iZ_mul, iZ_neg, iZ_lt, iZ_le, iZ_eq, iZ_div, iZ_of, ix_Z, gZ_map, gZ_mapI, gZ_map', le_0, le_s, sZ_map, sZ_len, bZ_0, bZ_inj, bZ_t, bZ_f, nr_i, nr_0, nr_1, nr_b, ft_i, ft_b, ft_0, ft_1, zl_0, zl_1, l0, l1, c0, b3, f1, mm1, mm2, dk, -List.filter_filter, -List.getElem?_map, -List.getD_eq_getElem?_getD]
    | false =>
      rw [bZ_f] at mm2 ⊢
      simp (disch := first | (refine c1_id ?_; assumption) | (refine c1_st rfl ?_; repeat (first | assumption | refine c1_st rfl ?_)) | omega) [nx_l, nx_r, nx_n, x_st, x_push, x_bin, x_div, x_un, x_dup, x_pop, x_dup2, x_goto, x_ifeq, x_ifne, x_iflt, x_ifge, x_ifgt, x_ifle, x_iceq, x_icne, x_iclt, x_icge, x_icgt, x_icle, x_ifnull, x_ifnonnull, x_ldi, x_lda, x_sti, x_sta, x_iinc, x_gf, x_pf, x_ald, x_ast, x_aln, x_len, x_cl_, x_cv, x_cs, x_rc, x_r0, x_isT, x_oi, x_rv, x_ri, x_ra, Value.category, t79_0, t79_1, t79_2, t79_5, t79_6, t79_7, t79_10, t79_11, t79_14, t79_17, t79_20, t79_21, t79_24, t79_25, lk_s, hp_get, hp_set, uH_at, uH_ne, uH_upd, uH_swap, iZ_add, iZ_sub, iZ_mul, iZ_neg, iZ_lt, iZ_le, iZ_eq, iZ_div, iZ_of, ix_Z, gZ_map, gZ_mapI, gZ_map', le_0, le_s, sZ_map, sZ_len, bZ_0, bZ_inj, bZ_t, bZ_f, nr_i, nr_0, nr_1, nr_b, ft_i, ft_b, ft_0, ft_1, zl_0, zl_1, l0, l1, c0, b3, f1, mm1, mm2, dk, -List.filter_filter, -List.getElem?_map, -List.getD_eq_getElem?_getD]
end SHC
