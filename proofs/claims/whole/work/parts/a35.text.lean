/-! the class: a text is made -/
theorem f157_0 : x_fetch q_k157 0 = x_lda 1 0 := rfl
theorem t157_0 (C : xF) (s n : Nat) (z : xS) : x_to q_k157 C s (n + 1) 0 z = x_nx q_k157 C s n ((x_lda 1 0) C z) := x_to_at f157_0 C s n z
theorem f157_1 : x_fetch q_k157 1 = x_st (x_push 3 (.int (16))) := rfl
theorem t157_1 (C : xF) (s n : Nat) (z : xS) : x_to q_k157 C s (n + 1) 1 z = x_nx q_k157 C s n ((x_st (x_push 3 (.int (16)))) C z) := x_to_at f157_1 C s n z
theorem f157_3 : x_fetch q_k157 3 = x_cs 6 158 2 := rfl
theorem t157_3 (C : xF) (s n : Nat) (z : xS) : x_to q_k157 C s (n + 1) 3 z = x_nx q_k157 C s n ((x_cs 6 158 2) C z) := x_to_at f157_3 C s n z
theorem f157_6 : x_fetch q_k157 6 = x_rv := rfl
theorem t157_6 (C : xF) (s n : Nat) (z : xS) : x_to q_k157 C s (n + 1) 6 z = x_nx q_k157 C s n ((x_rv) C z) := x_to_at f157_6 C s n z
theorem f158_0 : x_fetch q_k158 0 = x_lda 1 0 := rfl
theorem t158_0 (C : xF) (s n : Nat) (z : xS) : x_to q_k158 C s (n + 1) 0 z = x_nx q_k158 C s n ((x_lda 1 0) C z) := x_to_at f158_0 C s n z
theorem f158_1 : x_fetch q_k158 1 = x_st (x_oi 4) := rfl
theorem t158_1 (C : xF) (s n : Nat) (z : xS) : x_to q_k158 C s (n + 1) 1 z = x_nx q_k158 C s n ((x_st (x_oi 4)) C z) := x_to_at f158_1 C s n z
theorem f158_4 : x_fetch q_k158 4 = x_st (x_push 7 (.int (1))) := rfl
theorem t158_4 (C : xF) (s n : Nat) (z : xS) : x_to q_k158 C s (n + 1) 4 z = x_nx q_k158 C s n ((x_st (x_push 7 (.int (1)))) C z) := x_to_at f158_4 C s n z
theorem f158_7 : x_fetch q_k158 7 = x_st (x_ifeq 25 10) := rfl
theorem t158_7 (C : xF) (s n : Nat) (z : xS) : x_to q_k158 C s (n + 1) 7 z = x_nx q_k158 C s n ((x_st (x_ifeq 25 10)) C z) := x_to_at f158_7 C s n z
theorem f158_10 : x_fetch q_k158 10 = x_lda 11 0 := rfl
theorem t158_10 (C : xF) (s n : Nat) (z : xS) : x_to q_k158 C s (n + 1) 10 z = x_nx q_k158 C s n ((x_lda 11 0) C z) := x_to_at f158_10 C s n z
theorem f158_11 : x_fetch q_k158 11 = x_ldi 12 1 := rfl
theorem t158_11 (C : xF) (s n : Nat) (z : xS) : x_to q_k158 C s (n + 1) 11 z = x_nx q_k158 C s n ((x_ldi 12 1) C z) := x_to_at f158_11 C s n z
theorem f158_12 : x_fetch q_k158 12 = x_na 14 5 := rfl
theorem t158_12 (C : xF) (s n : Nat) (z : xS) : x_to q_k158 C s (n + 1) 12 z = x_nx q_k158 C s n ((x_na 14 5) C z) := x_to_at f158_12 C s n z
theorem f158_14 : x_fetch q_k158 14 = x_pf 17 14 0 (.array .byte) := rfl
theorem t158_14 (C : xF) (s n : Nat) (z : xS) : x_to q_k158 C s (n + 1) 14 z = x_nx q_k158 C s n ((x_pf 17 14 0 (.array .byte)) C z) := x_to_at f158_14 C s n z
theorem f158_17 : x_fetch q_k158 17 = x_lda 18 0 := rfl
theorem t158_17 (C : xF) (s n : Nat) (z : xS) : x_to q_k158 C s (n + 1) 17 z = x_nx q_k158 C s n ((x_lda 18 0) C z) := x_to_at f158_17 C s n z
theorem f158_18 : x_fetch q_k158 18 = x_st (x_push 19 (.int (0))) := rfl
theorem t158_18 (C : xF) (s n : Nat) (z : xS) : x_to q_k158 C s (n + 1) 18 z = x_nx q_k158 C s n ((x_st (x_push 19 (.int (0)))) C z) := x_to_at f158_18 C s n z
theorem f158_19 : x_fetch q_k158 19 = x_pf 22 14 1 (.byte) := rfl
theorem t158_19 (C : xF) (s n : Nat) (z : xS) : x_to q_k158 C s (n + 1) 19 z = x_nx q_k158 C s n ((x_pf 22 14 1 (.byte)) C z) := x_to_at f158_19 C s n z
theorem f158_22 : x_fetch q_k158 22 = x_st (x_goto 38) := rfl
theorem t158_22 (C : xF) (s n : Nat) (z : xS) : x_to q_k158 C s (n + 1) 22 z = x_nx q_k158 C s n ((x_st (x_goto 38)) C z) := x_to_at f158_22 C s n z
theorem f158_25 : x_fetch q_k158 25 = x_lda 26 0 := rfl
theorem t158_25 (C : xF) (s n : Nat) (z : xS) : x_to q_k158 C s (n + 1) 25 z = x_nx q_k158 C s n ((x_lda 26 0) C z) := x_to_at f158_25 C s n z
theorem f158_26 : x_fetch q_k158 26 = x_ldi 27 1 := rfl
theorem t158_26 (C : xF) (s n : Nat) (z : xS) : x_to q_k158 C s (n + 1) 26 z = x_nx q_k158 C s n ((x_ldi 27 1) C z) := x_to_at f158_26 C s n z
theorem f158_27 : x_fetch q_k158 27 = fun _ _ => none := rfl
theorem t158_27 (C : xF) (s n : Nat) (z : xS) : x_to q_k158 C s (n + 1) 27 z = x_nx q_k158 C s n ((fun _ _ => none) C z) := x_to_at f158_27 C s n z
theorem f158_30 : x_fetch q_k158 30 = x_pf 33 14 0 (.array .byte) := rfl
theorem t158_30 (C : xF) (s n : Nat) (z : xS) : x_to q_k158 C s (n + 1) 30 z = x_nx q_k158 C s n ((x_pf 33 14 0 (.array .byte)) C z) := x_to_at f158_30 C s n z
theorem f158_33 : x_fetch q_k158 33 = x_lda 34 0 := rfl
theorem t158_33 (C : xF) (s n : Nat) (z : xS) : x_to q_k158 C s (n + 1) 33 z = x_nx q_k158 C s n ((x_lda 34 0) C z) := x_to_at f158_33 C s n z
theorem f158_34 : x_fetch q_k158 34 = x_st (x_push 35 (.int (1))) := rfl
theorem t158_34 (C : xF) (s n : Nat) (z : xS) : x_to q_k158 C s (n + 1) 34 z = x_nx q_k158 C s n ((x_st (x_push 35 (.int (1)))) C z) := x_to_at f158_34 C s n z
theorem f158_35 : x_fetch q_k158 35 = x_pf 38 14 1 (.byte) := rfl
theorem t158_35 (C : xF) (s n : Nat) (z : xS) : x_to q_k158 C s (n + 1) 35 z = x_nx q_k158 C s n ((x_pf 38 14 1 (.byte)) C z) := x_to_at f158_35 C s n z
theorem f158_38 : x_fetch q_k158 38 = x_rv := rfl
theorem t158_38 (C : xF) (s n : Nat) (z : xS) : x_to q_k158 C s (n + 1) 38 z = x_nx q_k158 C s n ((x_rv) C z) := x_to_at f158_38 C s n z
theorem f167_0 : x_fetch q_k167 0 = x_nw_ 3 13 [.null, .int 0, .int 0, .int 0] := rfl
theorem t167_0 (C : xF) (s n : Nat) (z : xS) : x_to q_k167 C s (n + 1) 0 z = x_nx q_k167 C s n ((x_nw_ 3 13 [.null, .int 0, .int 0, .int 0]) C z) := x_to_at f167_0 C s n z
theorem f167_3 : x_fetch q_k167 3 = x_st (x_dup 4) := rfl
theorem t167_3 (C : xF) (s n : Nat) (z : xS) : x_to q_k167 C s (n + 1) 3 z = x_nx q_k167 C s n ((x_st (x_dup 4)) C z) := x_to_at f167_3 C s n z
theorem f167_4 : x_fetch q_k167 4 = x_lda 5 0 := rfl
theorem t167_4 (C : xF) (s n : Nat) (z : xS) : x_to q_k167 C s (n + 1) 4 z = x_nx q_k167 C s n ((x_lda 5 0) C z) := x_to_at f167_4 C s n z
theorem f167_5 : x_fetch q_k167 5 = x_cs 8 168 2 := rfl
theorem t167_5 (C : xF) (s n : Nat) (z : xS) : x_to q_k167 C s (n + 1) 5 z = x_nx q_k167 C s n ((x_cs 8 168 2) C z) := x_to_at f167_5 C s n z
theorem f167_8 : x_fetch q_k167 8 = x_ra := rfl
theorem t167_8 (C : xF) (s n : Nat) (z : xS) : x_to q_k167 C s (n + 1) 8 z = x_nx q_k167 C s n ((x_ra) C z) := x_to_at f167_8 C s n z
theorem f168_0 : x_fetch q_k168 0 = x_lda 1 0 := rfl
theorem t168_0 (C : xF) (s n : Nat) (z : xS) : x_to q_k168 C s (n + 1) 0 z = x_nx q_k168 C s n ((x_lda 1 0) C z) := x_to_at f168_0 C s n z
theorem f168_1 : x_fetch q_k168 1 = x_lda 2 1 := rfl
theorem t168_1 (C : xF) (s n : Nat) (z : xS) : x_to q_k168 C s (n + 1) 1 z = x_nx q_k168 C s n ((x_lda 2 1) C z) := x_to_at f168_1 C s n z
theorem f168_2 : x_fetch q_k168 2 = x_st (x_push 3 .null) := rfl
theorem t168_2 (C : xF) (s n : Nat) (z : xS) : x_to q_k168 C s (n + 1) 2 z = x_nx q_k168 C s n ((x_st (x_push 3 .null)) C z) := x_to_at f168_2 C s n z
theorem f168_3 : x_fetch q_k168 3 = x_cs 6 169 3 := rfl
theorem t168_3 (C : xF) (s n : Nat) (z : xS) : x_to q_k168 C s (n + 1) 3 z = x_nx q_k168 C s n ((x_cs 6 169 3) C z) := x_to_at f168_3 C s n z
theorem f168_6 : x_fetch q_k168 6 = x_rv := rfl
theorem t168_6 (C : xF) (s n : Nat) (z : xS) : x_to q_k168 C s (n + 1) 6 z = x_nx q_k168 C s n ((x_rv) C z) := x_to_at f168_6 C s n z
theorem f169_0 : x_fetch q_k169 0 = x_lda 1 0 := rfl
theorem t169_0 (C : xF) (s n : Nat) (z : xS) : x_to q_k169 C s (n + 1) 0 z = x_nx q_k169 C s n ((x_lda 1 0) C z) := x_to_at f169_0 C s n z
theorem f169_1 : x_fetch q_k169 1 = x_st (x_oi 4) := rfl
theorem t169_1 (C : xF) (s n : Nat) (z : xS) : x_to q_k169 C s (n + 1) 1 z = x_nx q_k169 C s n ((x_st (x_oi 4)) C z) := x_to_at f169_1 C s n z
theorem f169_4 : x_fetch q_k169 4 = x_lda 5 1 := rfl
theorem t169_4 (C : xF) (s n : Nat) (z : xS) : x_to q_k169 C s (n + 1) 4 z = x_nx q_k169 C s n ((x_lda 5 1) C z) := x_to_at f169_4 C s n z
theorem f169_5 : x_fetch q_k169 5 = x_cv 8 170 1 14 := rfl
theorem t169_5 (C : xF) (s n : Nat) (z : xS) : x_to q_k169 C s (n + 1) 5 z = x_nx q_k169 C s n ((x_cv 8 170 1 14) C z) := x_to_at f169_5 C s n z
theorem f169_8 : x_fetch q_k169 8 = x_sta 9 3 := rfl
theorem t169_8 (C : xF) (s n : Nat) (z : xS) : x_to q_k169 C s (n + 1) 8 z = x_nx q_k169 C s n ((x_sta 9 3) C z) := x_to_at f169_8 C s n z
theorem f169_9 : x_fetch q_k169 9 = x_lda 10 1 := rfl
theorem t169_9 (C : xF) (s n : Nat) (z : xS) : x_to q_k169 C s (n + 1) 9 z = x_nx q_k169 C s n ((x_lda 10 1) C z) := x_to_at f169_9 C s n z
theorem f169_10 : x_fetch q_k169 10 = x_cv 13 171 1 14 := rfl
theorem t169_10 (C : xF) (s n : Nat) (z : xS) : x_to q_k169 C s (n + 1) 10 z = x_nx q_k169 C s n ((x_cv 13 171 1 14) C z) := x_to_at f169_10 C s n z
theorem f169_13 : x_fetch q_k169 13 = x_sti 15 4 := rfl
theorem t169_13 (C : xF) (s n : Nat) (z : xS) : x_to q_k169 C s (n + 1) 13 z = x_nx q_k169 C s n ((x_sti 15 4) C z) := x_to_at f169_13 C s n z
theorem f169_15 : x_fetch q_k169 15 = x_lda 16 1 := rfl
theorem t169_15 (C : xF) (s n : Nat) (z : xS) : x_to q_k169 C s (n + 1) 15 z = x_nx q_k169 C s n ((x_lda 16 1) C z) := x_to_at f169_15 C s n z
theorem f169_16 : x_fetch q_k169 16 = x_cv 19 165 1 14 := rfl
theorem t169_16 (C : xF) (s n : Nat) (z : xS) : x_to q_k169 C s (n + 1) 16 z = x_nx q_k169 C s n ((x_cv 19 165 1 14) C z) := x_to_at f169_16 C s n z
theorem f169_19 : x_fetch q_k169 19 = x_st (x_ifeq 41 22) := rfl
theorem t169_19 (C : xF) (s n : Nat) (z : xS) : x_to q_k169 C s (n + 1) 19 z = x_nx q_k169 C s n ((x_st (x_ifeq 41 22)) C z) := x_to_at f169_19 C s n z
theorem f169_22 : x_fetch q_k169 22 = x_lda 23 0 := rfl
theorem t169_22 (C : xF) (s n : Nat) (z : xS) : x_to q_k169 C s (n + 1) 22 z = x_nx q_k169 C s n ((x_lda 23 0) C z) := x_to_at f169_22 C s n z
theorem f169_23 : x_fetch q_k169 23 = x_st (x_push 24 (.int (0))) := rfl
theorem t169_23 (C : xF) (s n : Nat) (z : xS) : x_to q_k169 C s (n + 1) 23 z = x_nx q_k169 C s n ((x_st (x_push 24 (.int (0)))) C z) := x_to_at f169_23 C s n z
theorem f169_24 : x_fetch q_k169 24 = x_pf 27 13 1 (.byte) := rfl
theorem t169_24 (C : xF) (s n : Nat) (z : xS) : x_to q_k169 C s (n + 1) 24 z = x_nx q_k169 C s n ((x_pf 27 13 1 (.byte)) C z) := x_to_at f169_24 C s n z
theorem f169_27 : x_fetch q_k169 27 = x_lda 28 0 := rfl
theorem t169_27 (C : xF) (s n : Nat) (z : xS) : x_to q_k169 C s (n + 1) 27 z = x_nx q_k169 C s n ((x_lda 28 0) C z) := x_to_at f169_27 C s n z
theorem f169_28 : x_fetch q_k169 28 = x_lda 29 3 := rfl
theorem t169_28 (C : xF) (s n : Nat) (z : xS) : x_to q_k169 C s (n + 1) 28 z = x_nx q_k169 C s n ((x_lda 29 3) C z) := x_to_at f169_28 C s n z
theorem f169_29 : x_fetch q_k169 29 = x_st (x_push 30 (.int (0))) := rfl
theorem t169_29 (C : xF) (s n : Nat) (z : xS) : x_to q_k169 C s (n + 1) 29 z = x_nx q_k169 C s n ((x_st (x_push 30 (.int (0)))) C z) := x_to_at f169_29 C s n z
theorem f169_30 : x_fetch q_k169 30 = x_ldi 32 4 := rfl
theorem t169_30 (C : xF) (s n : Nat) (z : xS) : x_to q_k169 C s (n + 1) 30 z = x_nx q_k169 C s n ((x_ldi 32 4) C z) := x_to_at f169_30 C s n z
theorem f169_32 : x_fetch q_k169 32 = x_cl_ 35 173 3 := rfl
theorem t169_32 (C : xF) (s n : Nat) (z : xS) : x_to q_k169 C s (n + 1) 32 z = x_nx q_k169 C s n ((x_cl_ 35 173 3) C z) := x_to_at f169_32 C s n z
theorem f169_35 : x_fetch q_k169 35 = x_pf 38 13 0 (.array .byte) := rfl
theorem t169_35 (C : xF) (s n : Nat) (z : xS) : x_to q_k169 C s (n + 1) 35 z = x_nx q_k169 C s n ((x_pf 38 13 0 (.array .byte)) C z) := x_to_at f169_35 C s n z
theorem f169_38 : x_fetch q_k169 38 = x_st (x_goto 97) := rfl
theorem t169_38 (C : xF) (s n : Nat) (z : xS) : x_to q_k169 C s (n + 1) 38 z = x_nx q_k169 C s n ((x_st (x_goto 97)) C z) := x_to_at f169_38 C s n z
theorem f169_41 : x_fetch q_k169 41 = x_st (x_push 44 (.int (1))) := rfl
theorem t169_41 (C : xF) (s n : Nat) (z : xS) : x_to q_k169 C s (n + 1) 41 z = x_nx q_k169 C s n ((x_st (x_push 44 (.int (1)))) C z) := x_to_at f169_41 C s n z
theorem f169_44 : x_fetch q_k169 44 = x_st (x_ifeq 79 47) := rfl
theorem t169_44 (C : xF) (s n : Nat) (z : xS) : x_to q_k169 C s (n + 1) 44 z = x_nx q_k169 C s n ((x_st (x_ifeq 79 47)) C z) := x_to_at f169_44 C s n z
theorem f169_47 : x_fetch q_k169 47 = x_lda 48 1 := rfl
theorem t169_47 (C : xF) (s n : Nat) (z : xS) : x_to q_k169 C s (n + 1) 47 z = x_nx q_k169 C s n ((x_lda 48 1) C z) := x_to_at f169_47 C s n z
theorem f169_48 : x_fetch q_k169 48 = fun _ _ => none := rfl
theorem t169_48 (C : xF) (s n : Nat) (z : xS) : x_to q_k169 C s (n + 1) 48 z = x_nx q_k169 C s n ((fun _ _ => none) C z) := x_to_at f169_48 C s n z
theorem f169_51 : x_fetch q_k169 51 = x_st (x_ifeq 79 54) := rfl
theorem t169_51 (C : xF) (s n : Nat) (z : xS) : x_to q_k169 C s (n + 1) 51 z = x_nx q_k169 C s n ((x_st (x_ifeq 79 54)) C z) := x_to_at f169_51 C s n z
theorem f169_54 : x_fetch q_k169 54 = x_lda 55 0 := rfl
theorem t169_54 (C : xF) (s n : Nat) (z : xS) : x_to q_k169 C s (n + 1) 54 z = x_nx q_k169 C s n ((x_lda 55 0) C z) := x_to_at f169_54 C s n z
theorem f169_55 : x_fetch q_k169 55 = x_lda 56 3 := rfl
theorem t169_55 (C : xF) (s n : Nat) (z : xS) : x_to q_k169 C s (n + 1) 55 z = x_nx q_k169 C s n ((x_lda 56 3) C z) := x_to_at f169_55 C s n z
theorem f169_56 : x_fetch q_k169 56 = x_st (x_push 57 (.int (0))) := rfl
theorem t169_56 (C : xF) (s n : Nat) (z : xS) : x_to q_k169 C s (n + 1) 56 z = x_nx q_k169 C s n ((x_st (x_push 57 (.int (0)))) C z) := x_to_at f169_56 C s n z
theorem f169_57 : x_fetch q_k169 57 = x_ldi 59 4 := rfl
theorem t169_57 (C : xF) (s n : Nat) (z : xS) : x_to q_k169 C s (n + 1) 57 z = x_nx q_k169 C s n ((x_ldi 59 4) C z) := x_to_at f169_57 C s n z
theorem f169_59 : x_fetch q_k169 59 = fun _ _ => none := rfl
theorem t169_59 (C : xF) (s n : Nat) (z : xS) : x_to q_k169 C s (n + 1) 59 z = x_nx q_k169 C s n ((fun _ _ => none) C z) := x_to_at f169_59 C s n z
theorem f169_62 : x_fetch q_k169 62 = x_pf 65 13 0 (.array .byte) := rfl
theorem t169_62 (C : xF) (s n : Nat) (z : xS) : x_to q_k169 C s (n + 1) 62 z = x_nx q_k169 C s n ((x_pf 65 13 0 (.array .byte)) C z) := x_to_at f169_62 C s n z
theorem f169_65 : x_fetch q_k169 65 = x_lda 66 0 := rfl
theorem t169_65 (C : xF) (s n : Nat) (z : xS) : x_to q_k169 C s (n + 1) 65 z = x_nx q_k169 C s n ((x_lda 66 0) C z) := x_to_at f169_65 C s n z
theorem f169_66 : x_fetch q_k169 66 = x_lda 67 0 := rfl
theorem t169_66 (C : xF) (s n : Nat) (z : xS) : x_to q_k169 C s (n + 1) 66 z = x_nx q_k169 C s n ((x_lda 67 0) C z) := x_to_at f169_66 C s n z
theorem f169_67 : x_fetch q_k169 67 = fun _ _ => none := rfl
theorem t169_67 (C : xF) (s n : Nat) (z : xS) : x_to q_k169 C s (n + 1) 67 z = x_nx q_k169 C s n ((fun _ _ => none) C z) := x_to_at f169_67 C s n z
theorem f169_70 : x_fetch q_k169 70 = x_ldi 72 4 := rfl
theorem t169_70 (C : xF) (s n : Nat) (z : xS) : x_to q_k169 C s (n + 1) 70 z = x_nx q_k169 C s n ((x_ldi 72 4) C z) := x_to_at f169_70 C s n z
theorem f169_72 : x_fetch q_k169 72 = fun _ _ => none := rfl
theorem t169_72 (C : xF) (s n : Nat) (z : xS) : x_to q_k169 C s (n + 1) 72 z = x_nx q_k169 C s n ((fun _ _ => none) C z) := x_to_at f169_72 C s n z
theorem f169_75 : x_fetch q_k169 75 = x_pf 78 13 1 (.byte) := rfl
theorem t169_75 (C : xF) (s n : Nat) (z : xS) : x_to q_k169 C s (n + 1) 75 z = x_nx q_k169 C s n ((x_pf 78 13 1 (.byte)) C z) := x_to_at f169_75 C s n z
theorem f169_78 : x_fetch q_k169 78 = x_rv := rfl
theorem t169_78 (C : xF) (s n : Nat) (z : xS) : x_to q_k169 C s (n + 1) 78 z = x_nx q_k169 C s n ((x_rv) C z) := x_to_at f169_78 C s n z
theorem f169_79 : x_fetch q_k169 79 = x_lda 80 0 := rfl
theorem t169_79 (C : xF) (s n : Nat) (z : xS) : x_to q_k169 C s (n + 1) 79 z = x_nx q_k169 C s n ((x_lda 80 0) C z) := x_to_at f169_79 C s n z
theorem f169_80 : x_fetch q_k169 80 = x_st (x_push 81 (.int (1))) := rfl
theorem t169_80 (C : xF) (s n : Nat) (z : xS) : x_to q_k169 C s (n + 1) 80 z = x_nx q_k169 C s n ((x_st (x_push 81 (.int (1)))) C z) := x_to_at f169_80 C s n z
theorem f169_81 : x_fetch q_k169 81 = x_pf 84 13 1 (.byte) := rfl
theorem t169_81 (C : xF) (s n : Nat) (z : xS) : x_to q_k169 C s (n + 1) 81 z = x_nx q_k169 C s n ((x_pf 84 13 1 (.byte)) C z) := x_to_at f169_81 C s n z
theorem f169_84 : x_fetch q_k169 84 = x_lda 85 0 := rfl
theorem t169_84 (C : xF) (s n : Nat) (z : xS) : x_to q_k169 C s (n + 1) 84 z = x_nx q_k169 C s n ((x_lda 85 0) C z) := x_to_at f169_84 C s n z
theorem f169_85 : x_fetch q_k169 85 = x_lda 86 3 := rfl
theorem t169_85 (C : xF) (s n : Nat) (z : xS) : x_to q_k169 C s (n + 1) 85 z = x_nx q_k169 C s n ((x_lda 86 3) C z) := x_to_at f169_85 C s n z
theorem f169_86 : x_fetch q_k169 86 = x_st (x_push 87 (.int (0))) := rfl
theorem t169_86 (C : xF) (s n : Nat) (z : xS) : x_to q_k169 C s (n + 1) 86 z = x_nx q_k169 C s n ((x_st (x_push 87 (.int (0)))) C z) := x_to_at f169_86 C s n z
theorem f169_87 : x_fetch q_k169 87 = x_ldi 89 4 := rfl
theorem t169_87 (C : xF) (s n : Nat) (z : xS) : x_to q_k169 C s (n + 1) 87 z = x_nx q_k169 C s n ((x_ldi 89 4) C z) := x_to_at f169_87 C s n z
theorem f169_89 : x_fetch q_k169 89 = x_st (x_push 90 (.int (1))) := rfl
theorem t169_89 (C : xF) (s n : Nat) (z : xS) : x_to q_k169 C s (n + 1) 89 z = x_nx q_k169 C s n ((x_st (x_push 90 (.int (1)))) C z) := x_to_at f169_89 C s n z
theorem f169_90 : x_fetch q_k169 90 = x_st (x_bin 91 (fun a b => a <<< (b &&& 31))) := rfl
theorem t169_90 (C : xF) (s n : Nat) (z : xS) : x_to q_k169 C s (n + 1) 90 z = x_nx q_k169 C s n ((x_st (x_bin 91 (fun a b => a <<< (b &&& 31)))) C z) := x_to_at f169_90 C s n z
theorem f169_91 : x_fetch q_k169 91 = x_cl_ 94 173 3 := rfl
theorem t169_91 (C : xF) (s n : Nat) (z : xS) : x_to q_k169 C s (n + 1) 91 z = x_nx q_k169 C s n ((x_cl_ 94 173 3) C z) := x_to_at f169_91 C s n z
theorem f169_94 : x_fetch q_k169 94 = x_pf 97 13 0 (.array .byte) := rfl
theorem t169_94 (C : xF) (s n : Nat) (z : xS) : x_to q_k169 C s (n + 1) 94 z = x_nx q_k169 C s n ((x_pf 97 13 0 (.array .byte)) C z) := x_to_at f169_94 C s n z
theorem f169_97 : x_fetch q_k169 97 = x_rv := rfl
theorem t169_97 (C : xF) (s n : Nat) (z : xS) : x_to q_k169 C s (n + 1) 97 z = x_nx q_k169 C s n ((x_rv) C z) := x_to_at f169_97 C s n z
theorem f170_0 : x_fetch q_k170 0 = x_lda 1 0 := rfl
theorem t170_0 (C : xF) (s n : Nat) (z : xS) : x_to q_k170 C s (n + 1) 0 z = x_nx q_k170 C s n ((x_lda 1 0) C z) := x_to_at f170_0 C s n z
theorem f170_1 : x_fetch q_k170 1 = x_gf 4 14 0 := rfl
theorem t170_1 (C : xF) (s n : Nat) (z : xS) : x_to q_k170 C s (n + 1) 1 z = x_nx q_k170 C s n ((x_gf 4 14 0) C z) := x_to_at f170_1 C s n z
theorem f170_4 : x_fetch q_k170 4 = x_ra := rfl
theorem t170_4 (C : xF) (s n : Nat) (z : xS) : x_to q_k170 C s (n + 1) 4 z = x_nx q_k170 C s n ((x_ra) C z) := x_to_at f170_4 C s n z
theorem f171_0 : x_fetch q_k171 0 = x_lda 1 0 := rfl
theorem t171_0 (C : xF) (s n : Nat) (z : xS) : x_to q_k171 C s (n + 1) 0 z = x_nx q_k171 C s n ((x_lda 1 0) C z) := x_to_at f171_0 C s n z
theorem f171_1 : x_fetch q_k171 1 = x_cv 4 172 1 14 := rfl
theorem t171_1 (C : xF) (s n : Nat) (z : xS) : x_to q_k171 C s (n + 1) 1 z = x_nx q_k171 C s n ((x_cv 4 172 1 14) C z) := x_to_at f171_1 C s n z
theorem f171_4 : x_fetch q_k171 4 = x_ri (.int) := rfl
theorem t171_4 (C : xF) (s n : Nat) (z : xS) : x_to q_k171 C s (n + 1) 4 z = x_nx q_k171 C s n ((x_ri (.int)) C z) := x_to_at f171_4 C s n z
theorem f172_0 : x_fetch q_k172 0 = x_lda 1 0 := rfl
theorem t172_0 (C : xF) (s n : Nat) (z : xS) : x_to q_k172 C s (n + 1) 0 z = x_nx q_k172 C s n ((x_lda 1 0) C z) := x_to_at f172_0 C s n z
theorem f172_1 : x_fetch q_k172 1 = x_gf 4 14 3 := rfl
theorem t172_1 (C : xF) (s n : Nat) (z : xS) : x_to q_k172 C s (n + 1) 1 z = x_nx q_k172 C s n ((x_gf 4 14 3) C z) := x_to_at f172_1 C s n z
theorem f172_4 : x_fetch q_k172 4 = x_ri (.int) := rfl
theorem t172_4 (C : xF) (s n : Nat) (z : xS) : x_to q_k172 C s (n + 1) 4 z = x_nx q_k172 C s n ((x_ri (.int)) C z) := x_to_at f172_4 C s n z
theorem f173_0 : x_fetch q_k173 0 = x_ldi 1 1 := rfl
theorem t173_0 (C : xF) (s n : Nat) (z : xS) : x_to q_k173 C s (n + 1) 0 z = x_nx q_k173 C s n ((x_ldi 1 1) C z) := x_to_at f173_0 C s n z
theorem f173_1 : x_fetch q_k173 1 = x_st (x_ifne 10 4) := rfl
theorem t173_1 (C : xF) (s n : Nat) (z : xS) : x_to q_k173 C s (n + 1) 1 z = x_nx q_k173 C s n ((x_st (x_ifne 10 4)) C z) := x_to_at f173_1 C s n z
theorem f173_4 : x_fetch q_k173 4 = x_ldi 5 2 := rfl
theorem t173_4 (C : xF) (s n : Nat) (z : xS) : x_to q_k173 C s (n + 1) 4 z = x_nx q_k173 C s n ((x_ldi 5 2) C z) := x_to_at f173_4 C s n z
theorem f173_5 : x_fetch q_k173 5 = x_lda 6 0 := rfl
theorem t173_5 (C : xF) (s n : Nat) (z : xS) : x_to q_k173 C s (n + 1) 5 z = x_nx q_k173 C s n ((x_lda 6 0) C z) := x_to_at f173_5 C s n z
theorem f173_6 : x_fetch q_k173 6 = x_aln 7 6 := rfl
theorem t173_6 (C : xF) (s n : Nat) (z : xS) : x_to q_k173 C s (n + 1) 6 z = x_nx q_k173 C s n ((x_aln 7 6) C z) := x_to_at f173_6 C s n z
theorem f173_7 : x_fetch q_k173 7 = x_st (x_iceq 17 10) := rfl
theorem t173_7 (C : xF) (s n : Nat) (z : xS) : x_to q_k173 C s (n + 1) 7 z = x_nx q_k173 C s n ((x_st (x_iceq 17 10)) C z) := x_to_at f173_7 C s n z
theorem f173_10 : x_fetch q_k173 10 = x_lda 11 0 := rfl
theorem t173_10 (C : xF) (s n : Nat) (z : xS) : x_to q_k173 C s (n + 1) 10 z = x_nx q_k173 C s n ((x_lda 11 0) C z) := x_to_at f173_10 C s n z
theorem f173_11 : x_fetch q_k173 11 = x_ldi 12 1 := rfl
theorem t173_11 (C : xF) (s n : Nat) (z : xS) : x_to q_k173 C s (n + 1) 11 z = x_nx q_k173 C s n ((x_ldi 12 1) C z) := x_to_at f173_11 C s n z
theorem f173_12 : x_fetch q_k173 12 = x_ldi 13 2 := rfl
theorem t173_12 (C : xF) (s n : Nat) (z : xS) : x_to q_k173 C s (n + 1) 12 z = x_nx q_k173 C s n ((x_ldi 13 2) C z) := x_to_at f173_12 C s n z
theorem f173_13 : x_fetch q_k173 13 = x_cl_ 16 174 3 := rfl
theorem t173_13 (C : xF) (s n : Nat) (z : xS) : x_to q_k173 C s (n + 1) 13 z = x_nx q_k173 C s n ((x_cl_ 16 174 3) C z) := x_to_at f173_13 C s n z
theorem f173_16 : x_fetch q_k173 16 = x_ra := rfl
theorem t173_16 (C : xF) (s n : Nat) (z : xS) : x_to q_k173 C s (n + 1) 16 z = x_nx q_k173 C s n ((x_ra) C z) := x_to_at f173_16 C s n z
theorem f173_17 : x_fetch q_k173 17 = x_lda 18 0 := rfl
theorem t173_17 (C : xF) (s n : Nat) (z : xS) : x_to q_k173 C s (n + 1) 17 z = x_nx q_k173 C s n ((x_lda 18 0) C z) := x_to_at f173_17 C s n z
theorem f173_18 : x_fetch q_k173 18 = x_cln 21 5 (fun v => fits .byte (.int v)) := rfl
theorem t173_18 (C : xF) (s n : Nat) (z : xS) : x_to q_k173 C s (n + 1) 18 z = x_nx q_k173 C s n ((x_cln 21 5 (fun v => fits .byte (.int v))) C z) := x_to_at f173_18 C s n z
theorem f173_21 : x_fetch q_k173 21 = x_cst 24 5 := rfl
theorem t173_21 (C : xF) (s n : Nat) (z : xS) : x_to q_k173 C s (n + 1) 21 z = x_nx q_k173 C s n ((x_cst 24 5) C z) := x_to_at f173_21 C s n z
theorem f173_24 : x_fetch q_k173 24 = x_ra := rfl
theorem t173_24 (C : xF) (s n : Nat) (z : xS) : x_to q_k173 C s (n + 1) 24 z = x_nx q_k173 C s n ((x_ra) C z) := x_to_at f173_24 C s n z
theorem f174_0 : x_fetch q_k174 0 = x_ldi 1 1 := rfl
theorem t174_0 (C : xF) (s n : Nat) (z : xS) : x_to q_k174 C s (n + 1) 0 z = x_nx q_k174 C s n ((x_ldi 1 1) C z) := x_to_at f174_0 C s n z
theorem f174_1 : x_fetch q_k174 1 = x_ldi 2 2 := rfl
theorem t174_1 (C : xF) (s n : Nat) (z : xS) : x_to q_k174 C s (n + 1) 1 z = x_nx q_k174 C s n ((x_ldi 2 2) C z) := x_to_at f174_1 C s n z
theorem f174_2 : x_fetch q_k174 2 = x_cl_ 5 175 2 := rfl
theorem t174_2 (C : xF) (s n : Nat) (z : xS) : x_to q_k174 C s (n + 1) 2 z = x_nx q_k174 C s n ((x_cl_ 5 175 2) C z) := x_to_at f174_2 C s n z
theorem f174_5 : x_fetch q_k174 5 = x_ldi 6 2 := rfl
theorem t174_5 (C : xF) (s n : Nat) (z : xS) : x_to q_k174 C s (n + 1) 5 z = x_nx q_k174 C s n ((x_ldi 6 2) C z) := x_to_at f174_5 C s n z
theorem f174_6 : x_fetch q_k174 6 = x_ldi 7 1 := rfl
theorem t174_6 (C : xF) (s n : Nat) (z : xS) : x_to q_k174 C s (n + 1) 6 z = x_nx q_k174 C s n ((x_ldi 7 1) C z) := x_to_at f174_6 C s n z
theorem f174_7 : x_fetch q_k174 7 = x_st (x_bin 8 (fun a b => a - b)) := rfl
theorem t174_7 (C : xF) (s n : Nat) (z : xS) : x_to q_k174 C s (n + 1) 7 z = x_nx q_k174 C s n ((x_st (x_bin 8 (fun a b => a - b))) C z) := x_to_at f174_7 C s n z
theorem f174_8 : x_fetch q_k174 8 = x_sti 9 3 := rfl
theorem t174_8 (C : xF) (s n : Nat) (z : xS) : x_to q_k174 C s (n + 1) 8 z = x_nx q_k174 C s n ((x_sti 9 3) C z) := x_to_at f174_8 C s n z
theorem f174_9 : x_fetch q_k174 9 = x_ldi 10 3 := rfl
theorem t174_9 (C : xF) (s n : Nat) (z : xS) : x_to q_k174 C s (n + 1) 9 z = x_nx q_k174 C s n ((x_ldi 10 3) C z) := x_to_at f174_9 C s n z
theorem f174_10 : x_fetch q_k174 10 = x_na 12 5 := rfl
theorem t174_10 (C : xF) (s n : Nat) (z : xS) : x_to q_k174 C s (n + 1) 10 z = x_nx q_k174 C s n ((x_na 12 5) C z) := x_to_at f174_10 C s n z
theorem f174_12 : x_fetch q_k174 12 = x_sta 14 4 := rfl
theorem t174_12 (C : xF) (s n : Nat) (z : xS) : x_to q_k174 C s (n + 1) 12 z = x_nx q_k174 C s n ((x_sta 14 4) C z) := x_to_at f174_12 C s n z
theorem f174_14 : x_fetch q_k174 14 = x_lda 15 0 := rfl
theorem t174_14 (C : xF) (s n : Nat) (z : xS) : x_to q_k174 C s (n + 1) 14 z = x_nx q_k174 C s n ((x_lda 15 0) C z) := x_to_at f174_14 C s n z
theorem f174_15 : x_fetch q_k174 15 = x_ldi 16 1 := rfl
theorem t174_15 (C : xF) (s n : Nat) (z : xS) : x_to q_k174 C s (n + 1) 15 z = x_nx q_k174 C s n ((x_ldi 16 1) C z) := x_to_at f174_15 C s n z
theorem f174_16 : x_fetch q_k174 16 = x_lda 18 4 := rfl
theorem t174_16 (C : xF) (s n : Nat) (z : xS) : x_to q_k174 C s (n + 1) 16 z = x_nx q_k174 C s n ((x_lda 18 4) C z) := x_to_at f174_16 C s n z
theorem f174_18 : x_fetch q_k174 18 = x_st (x_push 19 (.int (0))) := rfl
theorem t174_18 (C : xF) (s n : Nat) (z : xS) : x_to q_k174 C s (n + 1) 18 z = x_nx q_k174 C s n ((x_st (x_push 19 (.int (0)))) C z) := x_to_at f174_18 C s n z
theorem f174_19 : x_fetch q_k174 19 = x_lda 20 0 := rfl
theorem t174_19 (C : xF) (s n : Nat) (z : xS) : x_to q_k174 C s (n + 1) 19 z = x_nx q_k174 C s n ((x_lda 20 0) C z) := x_to_at f174_19 C s n z
theorem f174_20 : x_fetch q_k174 20 = x_aln 21 6 := rfl
theorem t174_20 (C : xF) (s n : Nat) (z : xS) : x_to q_k174 C s (n + 1) 20 z = x_nx q_k174 C s n ((x_aln 21 6) C z) := x_to_at f174_20 C s n z
theorem f174_21 : x_fetch q_k174 21 = x_ldi 22 1 := rfl
theorem t174_21 (C : xF) (s n : Nat) (z : xS) : x_to q_k174 C s (n + 1) 21 z = x_nx q_k174 C s n ((x_ldi 22 1) C z) := x_to_at f174_21 C s n z
theorem f174_22 : x_fetch q_k174 22 = x_st (x_bin 23 (fun a b => a - b)) := rfl
theorem t174_22 (C : xF) (s n : Nat) (z : xS) : x_to q_k174 C s (n + 1) 22 z = x_nx q_k174 C s n ((x_st (x_bin 23 (fun a b => a - b))) C z) := x_to_at f174_22 C s n z
theorem f174_23 : x_fetch q_k174 23 = x_ldi 24 3 := rfl
theorem t174_23 (C : xF) (s n : Nat) (z : xS) : x_to q_k174 C s (n + 1) 23 z = x_nx q_k174 C s n ((x_ldi 24 3) C z) := x_to_at f174_23 C s n z
theorem f174_24 : x_fetch q_k174 24 = x_st (x_mm 27 (fun a b => if b < a then b else a)) := rfl
theorem t174_24 (C : xF) (s n : Nat) (z : xS) : x_to q_k174 C s (n + 1) 24 z = x_nx q_k174 C s n ((x_st (x_mm 27 (fun a b => if b < a then b else a))) C z) := x_to_at f174_24 C s n z
theorem f174_27 : x_fetch q_k174 27 = x_acq 30 5 (fun v => fits .byte (.int v)) := rfl
theorem t174_27 (C : xF) (s n : Nat) (z : xS) : x_to q_k174 C s (n + 1) 27 z = x_nx q_k174 C s n ((x_acq 30 5 (fun v => fits .byte (.int v))) C z) := x_to_at f174_27 C s n z
theorem f174_30 : x_fetch q_k174 30 = x_lda 32 4 := rfl
theorem t174_30 (C : xF) (s n : Nat) (z : xS) : x_to q_k174 C s (n + 1) 30 z = x_nx q_k174 C s n ((x_lda 32 4) C z) := x_to_at f174_30 C s n z
theorem f174_32 : x_fetch q_k174 32 = x_ra := rfl
theorem t174_32 (C : xF) (s n : Nat) (z : xS) : x_to q_k174 C s (n + 1) 32 z = x_nx q_k174 C s n ((x_ra) C z) := x_to_at f174_32 C s n z
theorem f175_0 : x_fetch q_k175 0 = x_ldi 1 1 := rfl
theorem t175_0 (C : xF) (s n : Nat) (z : xS) : x_to q_k175 C s (n + 1) 0 z = x_nx q_k175 C s n ((x_ldi 1 1) C z) := x_to_at f175_0 C s n z
theorem f175_1 : x_fetch q_k175 1 = x_ldi 2 0 := rfl
theorem t175_1 (C : xF) (s n : Nat) (z : xS) : x_to q_k175 C s (n + 1) 1 z = x_nx q_k175 C s n ((x_ldi 2 0) C z) := x_to_at f175_1 C s n z
theorem f175_2 : x_fetch q_k175 2 = x_st (x_icge 37 5) := rfl
theorem t175_2 (C : xF) (s n : Nat) (z : xS) : x_to q_k175 C s (n + 1) 2 z = x_nx q_k175 C s n ((x_st (x_icge 37 5)) C z) := x_to_at f175_2 C s n z
theorem f175_5 : x_fetch q_k175 5 = fun _ _ => none := rfl
theorem t175_5 (C : xF) (s n : Nat) (z : xS) : x_to q_k175 C s (n + 1) 5 z = x_nx q_k175 C s n ((fun _ _ => none) C z) := x_to_at f175_5 C s n z
theorem f175_8 : x_fetch q_k175 8 = x_st (x_dup 9) := rfl
theorem t175_8 (C : xF) (s n : Nat) (z : xS) : x_to q_k175 C s (n + 1) 8 z = x_nx q_k175 C s n ((x_st (x_dup 9)) C z) := x_to_at f175_8 C s n z
theorem f175_9 : x_fetch q_k175 9 = fun _ _ => none := rfl
theorem t175_9 (C : xF) (s n : Nat) (z : xS) : x_to q_k175 C s (n + 1) 9 z = x_nx q_k175 C s n ((fun _ _ => none) C z) := x_to_at f175_9 C s n z
theorem f175_12 : x_fetch q_k175 12 = x_st (x_dup 13) := rfl
theorem t175_12 (C : xF) (s n : Nat) (z : xS) : x_to q_k175 C s (n + 1) 12 z = x_nx q_k175 C s n ((x_st (x_dup 13)) C z) := x_to_at f175_12 C s n z
theorem f175_13 : x_fetch q_k175 13 = fun _ _ => none := rfl
theorem t175_13 (C : xF) (s n : Nat) (z : xS) : x_to q_k175 C s (n + 1) 13 z = x_nx q_k175 C s n ((fun _ _ => none) C z) := x_to_at f175_13 C s n z
theorem f175_16 : x_fetch q_k175 16 = x_ldi 17 0 := rfl
theorem t175_16 (C : xF) (s n : Nat) (z : xS) : x_to q_k175 C s (n + 1) 16 z = x_nx q_k175 C s n ((x_ldi 17 0) C z) := x_to_at f175_16 C s n z
theorem f175_17 : x_fetch q_k175 17 = fun _ _ => none := rfl
theorem t175_17 (C : xF) (s n : Nat) (z : xS) : x_to q_k175 C s (n + 1) 17 z = x_nx q_k175 C s n ((fun _ _ => none) C z) := x_to_at f175_17 C s n z
theorem f175_20 : x_fetch q_k175 20 = fun _ _ => none := rfl
theorem t175_20 (C : xF) (s n : Nat) (z : xS) : x_to q_k175 C s (n + 1) 20 z = x_nx q_k175 C s n ((fun _ _ => none) C z) := x_to_at f175_20 C s n z
theorem f175_23 : x_fetch q_k175 23 = fun _ _ => none := rfl
theorem t175_23 (C : xF) (s n : Nat) (z : xS) : x_to q_k175 C s (n + 1) 23 z = x_nx q_k175 C s n ((fun _ _ => none) C z) := x_to_at f175_23 C s n z
theorem f175_26 : x_fetch q_k175 26 = x_ldi 27 1 := rfl
theorem t175_26 (C : xF) (s n : Nat) (z : xS) : x_to q_k175 C s (n + 1) 26 z = x_nx q_k175 C s n ((x_ldi 27 1) C z) := x_to_at f175_26 C s n z
theorem f175_27 : x_fetch q_k175 27 = fun _ _ => none := rfl
theorem t175_27 (C : xF) (s n : Nat) (z : xS) : x_to q_k175 C s (n + 1) 27 z = x_nx q_k175 C s n ((fun _ _ => none) C z) := x_to_at f175_27 C s n z
theorem f175_30 : x_fetch q_k175 30 = fun _ _ => none := rfl
theorem t175_30 (C : xF) (s n : Nat) (z : xS) : x_to q_k175 C s (n + 1) 30 z = x_nx q_k175 C s n ((fun _ _ => none) C z) := x_to_at f175_30 C s n z
theorem f175_33 : x_fetch q_k175 33 = fun _ _ => none := rfl
theorem t175_33 (C : xF) (s n : Nat) (z : xS) : x_to q_k175 C s (n + 1) 33 z = x_nx q_k175 C s n ((fun _ _ => none) C z) := x_to_at f175_33 C s n z
theorem f175_36 : x_fetch q_k175 36 = fun _ _ => none := rfl
theorem t175_36 (C : xF) (s n : Nat) (z : xS) : x_to q_k175 C s (n + 1) 36 z = x_nx q_k175 C s n ((fun _ _ => none) C z) := x_to_at f175_36 C s n z
theorem f175_37 : x_fetch q_k175 37 = x_rv := rfl
theorem t175_37 (C : xF) (s n : Nat) (z : xS) : x_to q_k175 C s (n + 1) 37 z = x_nx q_k175 C s n ((x_rv) C z) := x_to_at f175_37 C s n z
abbrev sO (v : Nat) : xC := .inr (13, [.ref (v + 3), .int (iZ 0), .int (iZ 0), .int (iZ 0)])
section TS
variable {w : Nat → xC} {N sb v : Nat} {Bv L : List Int} {n : Int}
theorem m158 (d : Nat) (hs : sb < N) (hw : w sb = .inr (14, [.null, .int (iZ 0), .int (iZ 0), .int (iZ 0)])) : Xc (d + 1) 158 [.ref (sb + 3), .int (iZ 16)] (hp w N) (none, hp (uH (uH w N (cI 5 (List.replicate 16 0))) sb (bO N 0)) (N + 1)) := by
  have A1 := fun K lv r => na_hp (w := w) (N := N) (n := 14) (t := 5) (k := 16) (by omega) (by omega) K lv r
  rw [show (16 : Int).toNat = 16 from rfl] at A1
  have hle : x_le (hp w N) (hp (uH (uH w N (cI 5 (List.replicate 16 0))) sb (bO N 0)) (N + 1)) := hp_le (by omega) (fun j hj => by
    by_cases e : j = sb
    · rw [e, uH_at, hw]
      simp [x_c1]
    · rw [uH_ne e, uH_ne (by omega)]
      exact Nat.le_refl _)
  refine Xc.of rfl (by simp [lg_sl, Value.category]) ?_ (hle)
  have hc : c1 (lv_args 0 [.ref (sb + 3), .int (iZ 16)]) := by simp [c1, lv_args, Value.category]
  have l0 : x_lk (lv_args 0 [.ref (sb + 3), .int (iZ 16)]) 0 = some (.ref (sb + 3)) := rfl
  have l1 : x_lk (lv_args 0 [.ref (sb + 3), .int (iZ 16)]) 1 = some (.int (iZ 16)) := rfl
  generalize lv_args 0 [.ref (sb + 3), .int (iZ 16)] = lv at hc l0 l1
  generalize hBB : (List.replicate 16 (0 : Int)) = BB at A1
  refine Gx.fin 30 Cs.tt (fun X _ => ?_)
  have sN : sb ≠ N := by omega
  simp (disch := first | (refine c1_id ?_; assumption) | (refine c1_st rfl ?_; repeat (first | assumption | refine c1_st rfl ?_)) | omega) [nx_l, nx_r, nx_n, x_st, x_push, x_bin, x_div, x_un, x_dup, x_pop, x_dup2, x_goto, x_ifeq, x_ifne, x_iflt, x_ifge, x_ifgt, x_ifle, x_iceq, x_icne, x_iclt, x_icge, x_icgt, x_icle, x_ifnull, x_ifnonnull, x_ldi, x_lda, x_sti, x_sta, x_iinc, x_gf, x_pf, x_ald, x_ast, x_aln, x_len, x_cl_, x_cv, x_cs, x_rc, x_r0, x_isT, x_oi, x_rv, x_ri, x_ra, Value.category, t158_0, t158_1, t158_4, t158_7, t158_10, t158_11, t158_12, t158_14, t158_17, t158_18, t158_19, t158_22, t158_25, t158_26, t158_27, t158_30, t158_33, t158_34, t158_35, t158_38, lk_s, hp_get, hp_set, uH_at, uH_ne, uH_upd, uH_swap, iZ_add, iZ_sub, iZ_mul, iZ_neg, iZ_lt, iZ_le, iZ_eq, iZ_div, iZ_of, ix_Z, gZ_map, gZ_mapI, gZ_map', le_0, le_s, sZ_map, sZ_len, bZ_0, bZ_inj, bZ_t, bZ_f, nr_i, nr_0, nr_1, nr_b, ft_i, ft_b, ft_0, ft_1, zl_0, zl_1, l0, l1, hw, A1, nr_ar, ft_ar, nr_B0, ft_B0, bO, -List.filter_filter, -List.getElem?_map, -List.getD_eq_getElem?_getD]
theorem m157 (d : Nat) (hs : sb < N) (hw : w sb = .inr (14, [.null, .int (iZ 0), .int (iZ 0), .int (iZ 0)])) : Xc (d + 2) 157 [.ref (sb + 3)] (hp w N) (none, hp (uH (uH w N (cI 5 (List.replicate 16 0))) sb (bO N 0)) (N + 1)) := by
  have X := m158 d hs hw
  have hle : x_le (hp w N) (hp (uH (uH w N (cI 5 (List.replicate 16 0))) sb (bO N 0)) (N + 1)) := hp_le (by omega) (fun j hj => by
    by_cases e : j = sb
    · rw [e, uH_at, hw]
      simp [x_c1]
    · rw [uH_ne e, uH_ne (by omega)]
      exact Nat.le_refl _)
  refine Xc.of rfl (by simp [lg_sl, Value.category]) ?_ (hle)
  have hc : c1 (lv_args 0 [.ref (sb + 3)]) := by simp [c1, lv_args, Value.category]
  have l0 : x_lk (lv_args 0 [.ref (sb + 3)]) 0 = some (.ref (sb + 3)) := rfl
  generalize lv_args 0 [.ref (sb + 3)] = lv at hc l0
  obtain ⟨w1, hw1⟩ : ∃ w1, w1 = uH (uH w N (cI 5 (List.replicate 16 0))) sb (bO N 0) := ⟨_, rfl⟩
  rw [← hw1] at X ⊢
  refine Gx.fin 20 X (fun X mm => ?_)
  simp (disch := first | (refine c1_id ?_; assumption) | (refine c1_st rfl ?_; repeat (first | assumption | refine c1_st rfl ?_)) | omega) [nx_l, nx_r, nx_n, x_st, x_push, x_bin, x_div, x_un, x_dup, x_pop, x_dup2, x_goto, x_ifeq, x_ifne, x_iflt, x_ifge, x_ifgt, x_ifle, x_iceq, x_icne, x_iclt, x_icge, x_icgt, x_icle, x_ifnull, x_ifnonnull, x_ldi, x_lda, x_sti, x_sta, x_iinc, x_gf, x_pf, x_ald, x_ast, x_aln, x_len, x_cl_, x_cv, x_cs, x_rc, x_r0, x_isT, x_oi, x_rv, x_ri, x_ra, Value.category, t157_0, t157_1, t157_3, t157_6, lk_s, hp_get, hp_set, uH_at, uH_ne, uH_upd, uH_swap, iZ_add, iZ_sub, iZ_mul, iZ_neg, iZ_lt, iZ_le, iZ_eq, iZ_div, iZ_of, ix_Z, gZ_map, gZ_mapI, gZ_map', le_0, le_s, sZ_map, sZ_len, bZ_0, bZ_inj, bZ_t, bZ_f, nr_i, nr_0, nr_1, nr_b, ft_i, ft_b, ft_0, ft_1, zl_0, zl_1, zl_16, l0, mm, -List.filter_filter, -List.getElem?_map, -List.getD_eq_getElem?_getD]
theorem m175 (d : Nat) (w : Nat → xC) (N : Nat) (n : Int) (n0 : 0 ≤ n) (n9 : n < 10000) : Xc (d + 1) 175 [.int (iZ 0), .int (iZ n)] (hp w N) (none, hp w N) := by
  refine Xc.of rfl (by simp [lg_sl, Value.category]) ?_ (x_le.rf)
  have hc : c1 (lv_args 0 [.int (iZ 0), .int (iZ n)]) := by simp [c1, lv_args, Value.category]
  have l0 : x_lk (lv_args 0 [.int (iZ 0), .int (iZ n)]) 0 = some (.int (iZ 0)) := rfl
  have l1 : x_lk (lv_args 0 [.int (iZ 0), .int (iZ n)]) 1 = some (.int (iZ n)) := rfl
  generalize lv_args 0 [.int (iZ 0), .int (iZ n)] = lv at hc l0 l1
  refine Gx.fin 20 Cs.tt (fun X _ => ?_)
  have b1 : 0 ≤ n := n0
  simp (disch := first | (refine c1_id ?_; assumption) | (refine c1_st rfl ?_; repeat (first | assumption | refine c1_st rfl ?_)) | omega) [nx_l, nx_r, nx_n, x_st, x_push, x_bin, x_div, x_un, x_dup, x_pop, x_dup2, x_goto, x_ifeq, x_ifne, x_iflt, x_ifge, x_ifgt, x_ifle, x_iceq, x_icne, x_iclt, x_icge, x_icgt, x_icle, x_ifnull, x_ifnonnull, x_ldi, x_lda, x_sti, x_sta, x_iinc, x_gf, x_pf, x_ald, x_ast, x_aln, x_len, x_cl_, x_cv, x_cs, x_rc, x_r0, x_isT, x_oi, x_rv, x_ri, x_ra, Value.category, t175_0, t175_1, t175_2, t175_5, t175_8, t175_9, t175_12, t175_13, t175_16, t175_17, t175_20, t175_23, t175_26, t175_27, t175_30, t175_33, t175_36, t175_37, lk_s, hp_get, hp_set, uH_at, uH_ne, uH_upd, uH_swap, iZ_add, iZ_sub, iZ_mul, iZ_neg, iZ_lt, iZ_le, iZ_eq, iZ_div, iZ_of, ix_Z, gZ_map, gZ_mapI, gZ_map', le_0, le_s, sZ_map, sZ_len, bZ_0, bZ_inj, bZ_t, bZ_f, nr_i, nr_0, nr_1, nr_b, ft_i, ft_b, ft_0, ft_1, zl_0, zl_1, l0, l1, b1, -List.filter_filter, -List.getElem?_map, -List.getD_eq_getElem?_getD]
theorem m174 (d : Nat) (hv : v < N) (hb : w v = cI 5 Bv) (lb : Bv.length < 5000) (hB : ∀ x ∈ Bv, 0 ≤ x ∧ x < 128) (k : Nat) (hk : k ≤ Bv.length) : Xc (d + 2) 174 [.ref (v + 3), .int (iZ 0), .int (iZ (k : Int))] (hp w N) (some (.ref (N + 3)), hp (uH w N (cI 5 (Bv.take k))) (N + 1)) := by
  have X5 := m175 d w N (k : Int) (by omega) (by omega)
  refine Xc.of rfl (by simp [lg_sl, Value.category]) ?_ (hp_gr)
  have hc : c1 (lv_args 0 [.ref (v + 3), .int (iZ 0), .int (iZ (k : Int))]) := by simp [c1, lv_args, Value.category]
  have l0 : x_lk (lv_args 0 [.ref (v + 3), .int (iZ 0), .int (iZ (k : Int))]) 0 = some (.ref (v + 3)) := rfl
  have l1 : x_lk (lv_args 0 [.ref (v + 3), .int (iZ 0), .int (iZ (k : Int))]) 1 = some (.int (iZ 0)) := rfl
  have l2 : x_lk (lv_args 0 [.ref (v + 3), .int (iZ 0), .int (iZ (k : Int))]) 2 = some (.int (iZ (k : Int))) := rfl
  generalize lv_args 0 [.ref (v + 3), .int (iZ 0), .int (iZ (k : Int))] = lv at hc l0 l1 l2
  obtain ⟨kk, hkk⟩ : ∃ kk : Int, kk = (k : Int) := ⟨_, rfl⟩
  obtain ⟨q, hq⟩ : ∃ q : Int, q = (Bv.length : Int) := ⟨_, rfl⟩
  have hq' : (Bv.length : Int) = q := hq.symm
  rw [← hkk] at l2 X5
  have A1 := fun K lv r => na_hp (w := w) (N := N) (n := 12) (t := 5) (k := kk) (by omega) (by omega) K lv r
  have A2 := fun K lv => acq_hp (w := uH w N (cI 5 (List.replicate kk.toNat 0))) (N := N + 1) (a := v) (b := N) (n := 30) (A := Bv) (B := List.replicate kk.toNat 0) (k := kk) (by omega) (by omega) (by rw [uH_ne (by omega)]; exact hb) (uH_at _ _ _) hB (by omega) (by omega) (by simp; omega) (by omega) K lv
  rw [uH_upd] at A2
  have e1 : Bv.take kk.toNat ++ (List.replicate kk.toNat (0 : Int)).drop kk.toNat = Bv.take k := by
    rw [List.drop_eq_nil_of_le (by simp), List.append_nil, hkk, Int.toNat_natCast]
  rw [e1] at A2
  have wa' : uH w N (cI 5 (List.replicate kk.toNat 0)) v = cI 5 Bv := by rw [uH_ne (by omega)]; exact hb
  have k9 : kk < 10000 := by omega
  have k0 : 0 ≤ kk := by omega
  have C3 := c1_st (i := 3) (v := .int (iZ kk)) rfl hc
  have C4 := c1_st (i := 4) (v := .ref (N + 3)) rfl C3
  refine Gx.run 40 (pc' := 18) (z' := ((4, .ref (N + 3)) :: List.filter (x_keep 4) ((3, .int (iZ kk)) :: lv.filter (x_keep 3)), [.ref (N + 3), .int (iZ 0), .ref (v + 3)], hp (uH w N (cI 5 (List.replicate kk.toNat 0))) (N + 1))) X5 (fun X mm => ?_) ?_
  · obtain ⟨w1, hw1⟩ : ∃ w1, w1 = uH w N (cI 5 (List.replicate kk.toNat 0)) := ⟨_, rfl⟩
    rw [← hw1] at A1
    rw [← hw1]
    have e0 : kk - 0 = kk := by omega
    simp (disch := first | (refine c1_id ?_; assumption) | (refine c1_st rfl ?_; repeat (first | assumption | refine c1_st rfl ?_)) | omega) [nx_l, nx_r, nx_n, x_st, x_push, x_bin, x_div, x_un, x_dup, x_pop, x_dup2, x_goto, x_ifeq, x_ifne, x_iflt, x_ifge, x_ifgt, x_ifle, x_iceq, x_icne, x_iclt, x_icge, x_icgt, x_icle, x_ifnull, x_ifnonnull, x_ldi, x_lda, x_sti, x_sta, x_iinc, x_gf, x_pf, x_ald, x_ast, x_aln, x_len, x_cl_, x_cv, x_cs, x_rc, x_r0, x_isT, x_oi, x_rv, x_ri, x_ra, Value.category, t174_0, t174_1, t174_2, t174_5, t174_6, t174_7, t174_8, t174_9, t174_10, t174_12, t174_14, t174_15, t174_16, t174_18, t174_19, t174_20, t174_21, t174_22, t174_23, t174_24, t174_27, t174_30, t174_32, lk_s, hp_get, hp_set, uH_at, uH_ne, uH_upd, uH_swap, iZ_add, iZ_sub, iZ_mul, iZ_neg, iZ_lt, iZ_le, iZ_eq, iZ_div, iZ_of, ix_Z, gZ_map, gZ_mapI, gZ_map', le_0, le_s, sZ_map, sZ_len, bZ_0, bZ_inj, bZ_t, bZ_f, nr_i, nr_0, nr_1, nr_b, ft_i, ft_b, ft_0, ft_1, zl_0, zl_1, l0, l1, l2, mm, e0, A1, -List.filter_filter, -List.getElem?_map, -List.getD_eq_getElem?_getD]
  · have j0 : x_lk ((4, .ref (N + 3)) :: List.filter (x_keep 4) ((3, .int (iZ kk)) :: lv.filter (x_keep 3))) 0 = some (.ref (v + 3)) := by rw [lk_s C3, lk_s hc]; exact l0
    have j1 : x_lk ((4, .ref (N + 3)) :: List.filter (x_keep 4) ((3, .int (iZ kk)) :: lv.filter (x_keep 3))) 1 = some (.int (iZ 0)) := by rw [lk_s C3, lk_s hc]; exact l1
    have j3 : x_lk ((4, .ref (N + 3)) :: List.filter (x_keep 4) ((3, .int (iZ kk)) :: lv.filter (x_keep 3))) 3 = some (.int (iZ kk)) := by rw [lk_s C3, lk_s hc]; rfl
    have j4 : x_lk ((4, .ref (N + 3)) :: List.filter (x_keep 4) ((3, .int (iZ kk)) :: lv.filter (x_keep 3))) 4 = some (.ref (N + 3)) := by rw [lk_s C3]; rfl
    generalize ((4, .ref (N + 3)) :: List.filter (x_keep 4) ((3, .int (iZ kk)) :: lv.filter (x_keep 3)) : xL) = lv4 at C4 j0 j1 j3 j4
    obtain ⟨w1, hw1⟩ : ∃ w1, w1 = uH w N (cI 5 (List.replicate kk.toNat 0)) := ⟨_, rfl⟩
    rw [← hw1] at A2 wa' ⊢
    have q0 : 0 ≤ q := by omega
    have q9 : q < 5000 := by omega
    have e0 : q - 0 = q := by omega
    have e2 : (if kk < q then iZ kk else iZ q) = iZ kk := by
      split
      · rfl
      · rw [show q = kk by omega]
    refine Gx.fin 40 Cs.tt (fun X _ => ?_)
    simp (disch := first | (refine c1_id ?_; assumption) | (refine c1_st rfl ?_; repeat (first | assumption | refine c1_st rfl ?_)) | omega) [nx_l, nx_r, nx_n, x_st, x_push, x_bin, x_div, x_un, x_dup, x_pop, x_dup2, x_goto, x_ifeq, x_ifne, x_iflt, x_ifge, x_ifgt, x_ifle, x_iceq, x_icne, x_iclt, x_icge, x_icgt, x_icle, x_ifnull, x_ifnonnull, x_ldi, x_lda, x_sti, x_sta, x_iinc, x_gf, x_pf, x_ald, x_ast, x_aln, x_len, x_cl_, x_cv, x_cs, x_rc, x_r0, x_isT, x_oi, x_rv, x_ri, x_ra, Value.category, t174_0, t174_1, t174_2, t174_5, t174_6, t174_7, t174_8, t174_9, t174_10, t174_12, t174_14, t174_15, t174_16, t174_18, t174_19, t174_20, t174_21, t174_22, t174_23, t174_24, t174_27, t174_30, t174_32, lk_s, hp_get, hp_set, uH_at, uH_ne, uH_upd, uH_swap, iZ_add, iZ_sub, iZ_mul, iZ_neg, iZ_lt, iZ_le, iZ_eq, iZ_div, iZ_of, ix_Z, gZ_map, gZ_mapI, gZ_map', le_0, le_s, sZ_map, sZ_len, bZ_0, bZ_inj, bZ_t, bZ_f, nr_i, nr_0, nr_1, nr_b, ft_i, ft_b, ft_0, ft_1, zl_0, zl_1, j0, j1, j3, j4, wa', e0, e2, A2, hq', x_mm, -List.filter_filter, -List.getElem?_map, -List.getD_eq_getElem?_getD]
theorem m173 (d : Nat) (hv : v < N) (hb : w v = cI 5 Bv) (lb : Bv.length < 5000) (hB : ∀ x ∈ Bv, 0 ≤ x ∧ x < 128) (k : Nat) (hk : k ≤ Bv.length) : Xc (d + 3) 173 [.ref (v + 3), .int (iZ 0), .int (iZ (k : Int))] (hp w N) (some (.ref (N + 3)), hp (uH w N (cI 5 (Bv.take k))) (N + 1)) := by
  obtain ⟨q, hq⟩ : ∃ q : Int, q = (Bv.length : Int) := ⟨_, rfl⟩
  have hq' : (Bv.length : Int) = q := hq.symm
  have q0 : 0 ≤ q := by omega
  have q9 : q < 5000 := by omega
  by_cases he : k = Bv.length
  · have A1 := fun K lv => cln_hp (n := 21) hv hb (bts_ok hB) K lv
    have A2 := fun K lv => cst_hp (w := uH w N (cI 5 Bv)) (N := N + 1) (a := N) (n := 24) (t := 5) (A := Bv) (by omega) (uH_at _ _ _) K lv
    rw [he, List.take_length, hq']
    refine Xc.of rfl (by simp [lg_sl, Value.category]) ?_ (hp_gr)
    have hc : c1 (lv_args 0 [.ref (v + 3), .int (iZ 0), .int (iZ q)]) := by simp [c1, lv_args, Value.category]
    have l0 : x_lk (lv_args 0 [.ref (v + 3), .int (iZ 0), .int (iZ q)]) 0 = some (.ref (v + 3)) := rfl
    have l1 : x_lk (lv_args 0 [.ref (v + 3), .int (iZ 0), .int (iZ q)]) 1 = some (.int (iZ 0)) := rfl
    have l2 : x_lk (lv_args 0 [.ref (v + 3), .int (iZ 0), .int (iZ q)]) 2 = some (.int (iZ q)) := rfl
    generalize lv_args 0 [.ref (v + 3), .int (iZ 0), .int (iZ q)] = lv at hc l0 l1 l2
    refine Gx.fin 20 Cs.tt (fun X _ => ?_)
    simp (disch := first | (refine c1_id ?_; assumption) | (refine c1_st rfl ?_; repeat (first | assumption | refine c1_st rfl ?_)) | omega) [nx_l, nx_r, nx_n, x_st, x_push, x_bin, x_div, x_un, x_dup, x_pop, x_dup2, x_goto, x_ifeq, x_ifne, x_iflt, x_ifge, x_ifgt, x_ifle, x_iceq, x_icne, x_iclt, x_icge, x_icgt, x_icle, x_ifnull, x_ifnonnull, x_ldi, x_lda, x_sti, x_sta, x_iinc, x_gf, x_pf, x_ald, x_ast, x_aln, x_len, x_cl_, x_cv, x_cs, x_rc, x_r0, x_isT, x_oi, x_rv, x_ri, x_ra, Value.category, t173_0, t173_1, t173_4, t173_5, t173_6, t173_7, t173_10, t173_11, t173_12, t173_13, t173_16, t173_17, t173_18, t173_21, t173_24, lk_s, hp_get, hp_set, uH_at, uH_ne, uH_upd, uH_swap, iZ_add, iZ_sub, iZ_mul, iZ_neg, iZ_lt, iZ_le, iZ_eq, iZ_div, iZ_of, ix_Z, gZ_map, gZ_mapI, gZ_map', le_0, le_s, sZ_map, sZ_len, bZ_0, bZ_inj, bZ_t, bZ_f, nr_i, nr_0, nr_1, nr_b, ft_i, ft_b, ft_0, ft_1, zl_0, zl_1, l0, l1, l2, hb, A1, A2, hq', -List.filter_filter, -List.getElem?_map, -List.getD_eq_getElem?_getD]
  · have X := m174 (d) hv hb lb hB k hk
    obtain ⟨kk, hkk⟩ : ∃ kk : Int, kk = (k : Int) := ⟨_, rfl⟩
    rw [← hkk] at X ⊢
    obtain ⟨w1, hw1⟩ : ∃ w1, w1 = uH w N (cI 5 (Bv.take k)) := ⟨_, rfl⟩
    have hle : x_le (hp w N) (hp w1 (N + 1)) := by rw [hw1]; exact hp_gr
    rw [← hw1] at X ⊢
    have k0 : 0 ≤ kk := by omega
    have kq : ¬ kk = q := by omega
    have k9 : kk < 5000 := by omega
    refine Xc.of rfl (by simp [lg_sl, Value.category]) ?_ (hle)
    have hc : c1 (lv_args 0 [.ref (v + 3), .int (iZ 0), .int (iZ kk)]) := by simp [c1, lv_args, Value.category]
    have l0 : x_lk (lv_args 0 [.ref (v + 3), .int (iZ 0), .int (iZ kk)]) 0 = some (.ref (v + 3)) := rfl
    have l1 : x_lk (lv_args 0 [.ref (v + 3), .int (iZ 0), .int (iZ kk)]) 1 = some (.int (iZ 0)) := rfl
    have l2 : x_lk (lv_args 0 [.ref (v + 3), .int (iZ 0), .int (iZ kk)]) 2 = some (.int (iZ kk)) := rfl
    generalize lv_args 0 [.ref (v + 3), .int (iZ 0), .int (iZ kk)] = lv at hc l0 l1 l2
    refine Gx.fin 20 X (fun X mm => ?_)
    simp (disch := first | (refine c1_id ?_; assumption) | (refine c1_st rfl ?_; repeat (first | assumption | refine c1_st rfl ?_)) | omega) [nx_l, nx_r, nx_n, x_st, x_push, x_bin, x_div, x_un, x_dup, x_pop, x_dup2, x_goto, x_ifeq, x_ifne, x_iflt, x_ifge, x_ifgt, x_ifle, x_iceq, x_icne, x_iclt, x_icge, x_icgt, x_icle, x_ifnull, x_ifnonnull, x_ldi, x_lda, x_sti, x_sta, x_iinc, x_gf, x_pf, x_ald, x_ast, x_aln, x_len, x_cl_, x_cv, x_cs, x_rc, x_r0, x_isT, x_oi, x_rv, x_ri, x_ra, Value.category, t173_0, t173_1, t173_4, t173_5, t173_6, t173_7, t173_10, t173_11, t173_12, t173_13, t173_16, t173_17, t173_18, t173_21, t173_24, lk_s, hp_get, hp_set, uH_at, uH_ne, uH_upd, uH_swap, iZ_add, iZ_sub, iZ_mul, iZ_neg, iZ_lt, iZ_le, iZ_eq, iZ_div, iZ_of, ix_Z, gZ_map, gZ_mapI, gZ_map', le_0, le_s, sZ_map, sZ_len, bZ_0, bZ_inj, bZ_t, bZ_f, nr_i, nr_0, nr_1, nr_b, ft_i, ft_b, ft_0, ft_1, zl_0, zl_1, l0, l1, l2, hb, kq, mm, hq', -List.filter_filter, -List.getElem?_map, -List.getD_eq_getElem?_getD]
theorem m170 (d : Nat) (hs : sb < N) (hw : w sb = bO v n) : Xc (d + 1) 170 [.ref (sb + 3)] (hp w N) (some (.ref (v + 3)), hp w N) := by
  refine Xc.of rfl (by simp [lg_sl, Value.category]) ?_ (x_le.rf)
  have hc : c1 (lv_args 0 [.ref (sb + 3)]) := by simp [c1, lv_args, Value.category]
  have l0 : x_lk (lv_args 0 [.ref (sb + 3)]) 0 = some (.ref (sb + 3)) := rfl
  generalize lv_args 0 [.ref (sb + 3)] = lv at hc l0
  refine Gx.fin 20 Cs.tt (fun X _ => ?_)
  simp (disch := first | (refine c1_id ?_; assumption) | (refine c1_st rfl ?_; repeat (first | assumption | refine c1_st rfl ?_)) | omega) [nx_l, nx_r, nx_n, x_st, x_push, x_bin, x_div, x_un, x_dup, x_pop, x_dup2, x_goto, x_ifeq, x_ifne, x_iflt, x_ifge, x_ifgt, x_ifle, x_iceq, x_icne, x_iclt, x_icge, x_icgt, x_icle, x_ifnull, x_ifnonnull, x_ldi, x_lda, x_sti, x_sta, x_iinc, x_gf, x_pf, x_ald, x_ast, x_aln, x_len, x_cl_, x_cv, x_cs, x_rc, x_r0, x_isT, x_oi, x_rv, x_ri, x_ra, Value.category, t170_0, t170_1, t170_4, lk_s, hp_get, hp_set, uH_at, uH_ne, uH_upd, uH_swap, iZ_add, iZ_sub, iZ_mul, iZ_neg, iZ_lt, iZ_le, iZ_eq, iZ_div, iZ_of, ix_Z, gZ_map, gZ_mapI, gZ_map', le_0, le_s, sZ_map, sZ_len, bZ_0, bZ_inj, bZ_t, bZ_f, nr_i, nr_0, nr_1, nr_b, ft_i, ft_b, ft_0, ft_1, zl_0, zl_1, l0, hw, bO, -List.filter_filter, -List.getElem?_map, -List.getD_eq_getElem?_getD]
theorem m172 (d : Nat) (hs : sb < N) (hw : w sb = bO v n) : Xc (d + 1) 172 [.ref (sb + 3)] (hp w N) (some (.int (iZ n)), hp w N) := by
  refine Xc.of rfl (by simp [lg_sl, Value.category]) ?_ (x_le.rf)
  have hc : c1 (lv_args 0 [.ref (sb + 3)]) := by simp [c1, lv_args, Value.category]
  have l0 : x_lk (lv_args 0 [.ref (sb + 3)]) 0 = some (.ref (sb + 3)) := rfl
  generalize lv_args 0 [.ref (sb + 3)] = lv at hc l0
  refine Gx.fin 20 Cs.tt (fun X _ => ?_)
  simp (disch := first | (refine c1_id ?_; assumption) | (refine c1_st rfl ?_; repeat (first | assumption | refine c1_st rfl ?_)) | omega) [nx_l, nx_r, nx_n, x_st, x_push, x_bin, x_div, x_un, x_dup, x_pop, x_dup2, x_goto, x_ifeq, x_ifne, x_iflt, x_ifge, x_ifgt, x_ifle, x_iceq, x_icne, x_iclt, x_icge, x_icgt, x_icle, x_ifnull, x_ifnonnull, x_ldi, x_lda, x_sti, x_sta, x_iinc, x_gf, x_pf, x_ald, x_ast, x_aln, x_len, x_cl_, x_cv, x_cs, x_rc, x_r0, x_isT, x_oi, x_rv, x_ri, x_ra, Value.category, t172_0, t172_1, t172_4, lk_s, hp_get, hp_set, uH_at, uH_ne, uH_upd, uH_swap, iZ_add, iZ_sub, iZ_mul, iZ_neg, iZ_lt, iZ_le, iZ_eq, iZ_div, iZ_of, ix_Z, gZ_map, gZ_mapI, gZ_map', le_0, le_s, sZ_map, sZ_len, bZ_0, bZ_inj, bZ_t, bZ_f, nr_i, nr_0, nr_1, nr_b, ft_i, ft_b, ft_0, ft_1, zl_0, zl_1, l0, hw, bO, -List.filter_filter, -List.getElem?_map, -List.getD_eq_getElem?_getD]
theorem m171 (d : Nat) (hs : sb < N) (hw : w sb = bO v n) : Xc (d + 2) 171 [.ref (sb + 3)] (hp w N) (some (.int (iZ n)), hp w N) := by
  have X := m172 d hs hw
  refine Xc.of rfl (by simp [lg_sl, Value.category]) ?_ (x_le.rf)
  have hc : c1 (lv_args 0 [.ref (sb + 3)]) := by simp [c1, lv_args, Value.category]
  have l0 : x_lk (lv_args 0 [.ref (sb + 3)]) 0 = some (.ref (sb + 3)) := rfl
  generalize lv_args 0 [.ref (sb + 3)] = lv at hc l0
  refine Gx.fin 20 X (fun X mm => ?_)
  simp (disch := first | (refine c1_id ?_; assumption) | (refine c1_st rfl ?_; repeat (first | assumption | refine c1_st rfl ?_)) | omega) [nx_l, nx_r, nx_n, x_st, x_push, x_bin, x_div, x_un, x_dup, x_pop, x_dup2, x_goto, x_ifeq, x_ifne, x_iflt, x_ifge, x_ifgt, x_ifle, x_iceq, x_icne, x_iclt, x_icge, x_icgt, x_icle, x_ifnull, x_ifnonnull, x_ldi, x_lda, x_sti, x_sta, x_iinc, x_gf, x_pf, x_ald, x_ast, x_aln, x_len, x_cl_, x_cv, x_cs, x_rc, x_r0, x_isT, x_oi, x_rv, x_ri, x_ra, Value.category, t171_0, t171_1, t171_4, lk_s, hp_get, hp_set, uH_at, uH_ne, uH_upd, uH_swap, iZ_add, iZ_sub, iZ_mul, iZ_neg, iZ_lt, iZ_le, iZ_eq, iZ_div, iZ_of, ix_Z, gZ_map, gZ_mapI, gZ_map', le_0, le_s, sZ_map, sZ_len, bZ_0, bZ_inj, bZ_t, bZ_f, nr_i, nr_0, nr_1, nr_b, ft_i, ft_b, ft_0, ft_1, zl_0, zl_1, l0, hw, mm, bO, -List.filter_filter, -List.getElem?_map, -List.getD_eq_getElem?_getD]
theorem SB.take {v : Nat} {Bv : List Int} (l1 : L.length ≤ Bv.length) (h : ∀ i : Nat, i < L.length → gZ Bv i = L.getD i 0) : Bv.take L.length = L := by
  refine getD_ext (by rw [List.length_take]; omega) (fun i hi => ?_)
  rw [List.length_take] at hi
  have := h i (by omega)
  unfold gZ at this
  rw [Int.toNat_natCast] at this
  rw [← this, List.getD_eq_getElem?_getD, List.getElem?_take_of_lt (by omega), List.getD_eq_getElem?_getD]
set_option maxHeartbeats 1000000 in
theorem m169 (d : Nat) (h : SB w N sb L) (l9 : L.length < 2000) {st : Nat} (hst : st < N) (h1 : sb < st) (hne : ∀ v Bv, w sb = bO v L.length → w v = cI 5 Bv → v ≠ st) (hw : w st = .inr (13, [.null, .int (iZ 0), .int (iZ 0), .int (iZ 0)])) : Xc (d + 4) 169 [.ref (st + 3), .ref (sb + 3), .null] (hp w N) (none, hp (uH (uH w st (sO N)) N (cI 5 L)) (N + 1)) := by
  obtain ⟨v, Bv, g1, g2, g3, g4, g5, g6, g7, g8⟩ := h
  have vst := hne v Bv g1 g4
  obtain ⟨w1, hw1⟩ : ∃ w1, w1 = uH w st (.inr (13, [.null, .int (iZ 0), .int (iZ 0), .int (iZ 0)])) := ⟨_, rfl⟩
  have ew : w1 = w := by rw [hw1]; exact uH_self hw
  have X0 := m170 (N := N) (d + 2) (by omega) g1
  have X1 := m171 (N := N) (d + 1) (by omega) g1
  have X5 := m165 (N := N) (d + 2) (by omega) g1
  have X3 := m173 (N := N) d g3 g4 (by omega) g7 L.length g5
  rw [SB.take (v := v) g5 g8] at X3
  have hle : x_le (hp w N) (hp (uH (uH w st (sO N)) N (cI 5 L)) (N + 1)) := hp_le (by omega) (fun j hj => by
    rw [uH_ne (by omega)]
    by_cases e : j = st
    · rw [e, uH_at, hw]
      simp [x_c1]
    · rw [uH_ne e]
      exact Nat.le_refl _)
  refine Xc.of rfl (by simp [lg_sl, Value.category]) ?_ (hle)
  have hc : c1 (lv_args 0 [.ref (st + 3), .ref (sb + 3), .null]) := by simp [c1, lv_args, Value.category]
  have l0 : x_lk (lv_args 0 [.ref (st + 3), .ref (sb + 3), .null]) 0 = some (.ref (st + 3)) := rfl
  have l1 : x_lk (lv_args 0 [.ref (st + 3), .ref (sb + 3), .null]) 1 = some (.ref (sb + 3)) := rfl
  have l2 : x_lk (lv_args 0 [.ref (st + 3), .ref (sb + 3), .null]) 2 = some (.null) := rfl
  generalize lv_args 0 [.ref (st + 3), .ref (sb + 3), .null] = lv at hc l0 l1 l2
  obtain ⟨q, hq⟩ : ∃ q : Int, q = (L.length : Int) := ⟨_, rfl⟩
  rw [← hq] at X1 X3 g1
  have q0 : 0 ≤ q := by omega
  have q9 : q < 2000 := by omega
  have sN : st ≠ N := by omega
  have ew2 : uH w st (.inr (13, [.null, .int (iZ 0), .int (iZ 0), .int (iZ 0)])) = w := uH_self hw
  rw [← uH_swap hst]
  refine Gx.fin 60 (((X0.and X1).and X5).and X3) (fun X mm => ?_)
  obtain ⟨⟨⟨mm1, mm2⟩, mm3⟩, mm4⟩ := mm
  simp (disch := first | (refine c1_id ?_; assumption) | (refine c1_st rfl ?_; repeat (first | assumption | refine c1_st rfl ?_)) | omega) [nx_l, nx_r, nx_n, x_st, x_push, x_bin, x_div, x_un, x_dup, x_pop, x_dup2, x_goto, x_ifeq, x_ifne, x_iflt, x_ifge, x_ifgt, x_ifle, x_iceq, x_icne, x_iclt, x_icge, x_icgt, x_icle, x_ifnull, x_ifnonnull, x_ldi, x_lda, x_sti, x_sta, x_iinc, x_gf, x_pf, x_ald, x_ast, x_aln, x_len, x_cl_, x_cv, x_cs, x_rc, x_r0, x_isT, x_oi, x_rv, x_ri, x_ra, Value.category, t169_0, t169_1, t169_4, t169_5, t169_8, t169_9, t169_10, t169_13, t169_15, t169_16, t169_19, t169_22, t169_23, t169_24, t169_27, t169_28, t169_29, t169_30, t169_32, t169_35, t169_38, t169_41, t169_44, t169_47, t169_48, t169_51, t169_54, t169_55, t169_56, t169_57, t169_59, t169_62, t169_65, t169_66, t169_67, t169_70, t169_72, t169_75, t169_78, t169_79, t169_80, t169_81, t169_84, t169_85, t169_86, t169_87, t169_89, t169_90, t169_91, t169_94, t169_97, lk_s, hp_get, hp_set, uH_at, uH_ne, uH_upd, uH_swap, iZ_add, iZ_sub, iZ_mul, iZ_neg, iZ_lt, iZ_le, iZ_eq, iZ_div, iZ_of, ix_Z, gZ_map, gZ_mapI, gZ_map', le_0, le_s, sZ_map, sZ_len, bZ_0, bZ_inj, bZ_t, bZ_f, nr_i, nr_0, nr_1, nr_b, ft_i, ft_b, ft_0, ft_1, zl_0, zl_1, l0, l1, l2, g1, hw, mm1, mm2, mm3, mm4, ew2, nr_ar, ft_ar, nr_B0, ft_B0, bO, -List.filter_filter, -List.getElem?_map, -List.getD_eq_getElem?_getD]
theorem m168 (d : Nat) (h : SB w N sb L) (l9 : L.length < 2000) {st : Nat} (hst : st < N) (h1 : sb < st) (hne : ∀ v Bv, w sb = bO v L.length → w v = cI 5 Bv → v ≠ st) (hw : w st = .inr (13, [.null, .int (iZ 0), .int (iZ 0), .int (iZ 0)])) : Xc (d + 5) 168 [.ref (st + 3), .ref (sb + 3)] (hp w N) (none, hp (uH (uH w st (sO N)) N (cI 5 L)) (N + 1)) := by
  have X := m169 d h l9 hst h1 hne hw
  have hle : x_le (hp w N) (hp (uH (uH w st (sO N)) N (cI 5 L)) (N + 1)) := hp_le (by omega) (fun j hj => by
    rw [uH_ne (by omega)]
    by_cases e : j = st
    · rw [e, uH_at, hw]
      simp [x_c1]
    · rw [uH_ne e]
      exact Nat.le_refl _)
  refine Xc.of rfl (by simp [lg_sl, Value.category]) ?_ (hle)
  have hc : c1 (lv_args 0 [.ref (st + 3), .ref (sb + 3)]) := by simp [c1, lv_args, Value.category]
  have l0 : x_lk (lv_args 0 [.ref (st + 3), .ref (sb + 3)]) 0 = some (.ref (st + 3)) := rfl
  have l1 : x_lk (lv_args 0 [.ref (st + 3), .ref (sb + 3)]) 1 = some (.ref (sb + 3)) := rfl
  generalize lv_args 0 [.ref (st + 3), .ref (sb + 3)] = lv at hc l0 l1
  obtain ⟨w1, hw1⟩ : ∃ w1, w1 = uH (uH w st (sO N)) N (cI 5 L) := ⟨_, rfl⟩
  rw [← hw1] at X ⊢
  refine Gx.fin 20 X (fun X mm => ?_)
  simp (disch := first | (refine c1_id ?_; assumption) | (refine c1_st rfl ?_; repeat (first | assumption | refine c1_st rfl ?_)) | omega) [nx_l, nx_r, nx_n, x_st, x_push, x_bin, x_div, x_un, x_dup, x_pop, x_dup2, x_goto, x_ifeq, x_ifne, x_iflt, x_ifge, x_ifgt, x_ifle, x_iceq, x_icne, x_iclt, x_icge, x_icgt, x_icle, x_ifnull, x_ifnonnull, x_ldi, x_lda, x_sti, x_sta, x_iinc, x_gf, x_pf, x_ald, x_ast, x_aln, x_len, x_cl_, x_cv, x_cs, x_rc, x_r0, x_isT, x_oi, x_rv, x_ri, x_ra, Value.category, t168_0, t168_1, t168_2, t168_3, t168_6, lk_s, hp_get, hp_set, uH_at, uH_ne, uH_upd, uH_swap, iZ_add, iZ_sub, iZ_mul, iZ_neg, iZ_lt, iZ_le, iZ_eq, iZ_div, iZ_of, ix_Z, gZ_map, gZ_mapI, gZ_map', le_0, le_s, sZ_map, sZ_len, bZ_0, bZ_inj, bZ_t, bZ_f, nr_i, nr_0, nr_1, nr_b, ft_i, ft_b, ft_0, ft_1, zl_0, zl_1, l0, l1, mm, -List.filter_filter, -List.getElem?_map, -List.getD_eq_getElem?_getD]
theorem m167 (d : Nat) (h : SB w N sb L) (l9 : L.length < 2000) : Xc (d + 6) 167 [.ref (sb + 3)] (hp w N) (some (.ref (N + 3)), hp (uH (uH w N (sO (N + 1))) (N + 1) (cI 5 L)) (N + 2)) := by
  have h' := h
  obtain ⟨v, Bv, g1, g2, g3, g4, g5, g6, g7, g8⟩ := h'
  obtain ⟨w1, hw1⟩ : ∃ w1, w1 = uH w N (.inr (13, [.null, .int (iZ 0), .int (iZ 0), .int (iZ 0)])) := ⟨_, rfl⟩
  have hS1 : SB w1 (N + 1) sb L := ⟨v, Bv, by rw [hw1, uH_ne (by omega)]; exact g1, g2, by omega, by rw [hw1, uH_ne (by omega)]; exact g4, g5, g6, g7, g8⟩
  have X := m168 (N := N + 1) (st := N) d hS1 l9 (by omega) (by omega) (fun v' Bv' e1 e2 z => by
    rw [hw1, uH_ne (by omega), g1] at e1
    have : v + 3 = v' + 3 := by
      have := congrArg (fun c : xC => match c with
        | .inr (_, .ref k :: _) => k
        | _ => 0) e1
      exact this
    omega) (by rw [hw1, uH_at])
  have e1 : uH (uH w1 N (sO (N + 1))) (N + 1) (cI 5 L) = uH (uH w N (sO (N + 1))) (N + 1) (cI 5 L) := by rw [hw1, uH_upd]
  rw [e1] at X
  have hle : x_le (hp w N) (hp (uH (uH w N (sO (N + 1))) (N + 1) (cI 5 L)) (N + 2)) := hp_le (by omega) (fun j hj => by
    rw [uH_ne (by omega), uH_ne (by omega)]
    exact Nat.le_refl _)
  refine Xc.of rfl (by simp [lg_sl, Value.category]) ?_ (hle)
  have hc : c1 (lv_args 0 [.ref (sb + 3)]) := by simp [c1, lv_args, Value.category]
  have l0 : x_lk (lv_args 0 [.ref (sb + 3)]) 0 = some (.ref (sb + 3)) := rfl
  generalize lv_args 0 [.ref (sb + 3)] = lv at hc l0
  obtain ⟨w2, hw2⟩ : ∃ w2, w2 = uH (uH w N (sO (N + 1))) (N + 1) (cI 5 L) := ⟨_, rfl⟩
  rw [← hw2] at X ⊢
  refine Gx.fin 20 X (fun X mm => ?_)
  rw [hw1] at mm
  simp (disch := first | (refine c1_id ?_; assumption) | (refine c1_st rfl ?_; repeat (first | assumption | refine c1_st rfl ?_)) | omega) [nx_l, nx_r, nx_n, x_st, x_push, x_bin, x_div, x_un, x_dup, x_pop, x_dup2, x_goto, x_ifeq, x_ifne, x_iflt, x_ifge, x_ifgt, x_ifle, x_iceq, x_icne, x_iclt, x_icge, x_icgt, x_icle, x_ifnull, x_ifnonnull, x_ldi, x_lda, x_sti, x_sta, x_iinc, x_gf, x_pf, x_ald, x_ast, x_aln, x_len, x_cl_, x_cv, x_cs, x_rc, x_r0, x_isT, x_oi, x_rv, x_ri, x_ra, Value.category, t167_0, t167_3, t167_4, t167_5, t167_8, lk_s, hp_get, hp_set, uH_at, uH_ne, uH_upd, uH_swap, iZ_add, iZ_sub, iZ_mul, iZ_neg, iZ_lt, iZ_le, iZ_eq, iZ_div, iZ_of, ix_Z, gZ_map, gZ_mapI, gZ_map', le_0, le_s, sZ_map, sZ_len, bZ_0, bZ_inj, bZ_t, bZ_f, nr_i, nr_0, nr_1, nr_b, ft_i, ft_b, ft_0, ft_1, zl_0, zl_1, l0, mm, x_nw_, hp_push, hp_len, -List.filter_filter, -List.getElem?_map, -List.getD_eq_getElem?_getD]
end TS
