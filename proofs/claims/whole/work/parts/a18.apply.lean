/-! the class: apply, in pieces -/
theorem f59_0 : x_fetch q_k59 0 = x_ldi 1 1 := rfl
theorem t59_0 (C : xF) (s n : Nat) (z : xS) : x_to q_k59 C s (n + 1) 0 z = x_nx q_k59 C s n ((x_ldi 1 1) C z) := x_to_at f59_0 C s n z
theorem f59_1 : x_fetch q_k59 1 = x_cl_ 4 85 1 := rfl
theorem t59_1 (C : xF) (s n : Nat) (z : xS) : x_to q_k59 C s (n + 1) 1 z = x_nx q_k59 C s n ((x_cl_ 4 85 1) C z) := x_to_at f59_1 C s n z
theorem f59_4 : x_fetch q_k59 4 = x_sti 6 7 := rfl
theorem t59_4 (C : xF) (s n : Nat) (z : xS) : x_to q_k59 C s (n + 1) 4 z = x_nx q_k59 C s n ((x_sti 6 7) C z) := x_to_at f59_4 C s n z
theorem f59_6 : x_fetch q_k59 6 = x_lda 7 0 := rfl
theorem t59_6 (C : xF) (s n : Nat) (z : xS) : x_to q_k59 C s (n + 1) 6 z = x_nx q_k59 C s n ((x_lda 7 0) C z) := x_to_at f59_6 C s n z
theorem f59_7 : x_fetch q_k59 7 = x_gf 10 2 1 := rfl
theorem t59_7 (C : xF) (s n : Nat) (z : xS) : x_to q_k59 C s (n + 1) 7 z = x_nx q_k59 C s n ((x_gf 10 2 1) C z) := x_to_at f59_7 C s n z
theorem f59_10 : x_fetch q_k59 10 = x_lda 11 2 := rfl
theorem t59_10 (C : xF) (s n : Nat) (z : xS) : x_to q_k59 C s (n + 1) 10 z = x_nx q_k59 C s n ((x_lda 11 2) C z) := x_to_at f59_10 C s n z
theorem f59_11 : x_fetch q_k59 11 = x_cv 14 40 2 5 := rfl
theorem t59_11 (C : xF) (s n : Nat) (z : xS) : x_to q_k59 C s (n + 1) 11 z = x_nx q_k59 C s n ((x_cv 14 40 2 5) C z) := x_to_at f59_11 C s n z
theorem f59_14 : x_fetch q_k59 14 = x_ldi 16 7 := rfl
theorem t59_14 (C : xF) (s n : Nat) (z : xS) : x_to q_k59 C s (n + 1) 14 z = x_nx q_k59 C s n ((x_ldi 16 7) C z) := x_to_at f59_14 C s n z
theorem f59_16 : x_fetch q_k59 16 = x_st (x_ifeq 30 19) := rfl
theorem t59_16 (C : xF) (s n : Nat) (z : xS) : x_to q_k59 C s (n + 1) 16 z = x_nx q_k59 C s n ((x_st (x_ifeq 30 19)) C z) := x_to_at f59_16 C s n z
theorem f59_19 : x_fetch q_k59 19 = x_lda 20 0 := rfl
theorem t59_19 (C : xF) (s n : Nat) (z : xS) : x_to q_k59 C s (n + 1) 19 z = x_nx q_k59 C s n ((x_lda 20 0) C z) := x_to_at f59_19 C s n z
theorem f59_20 : x_fetch q_k59 20 = x_gf 23 2 1 := rfl
theorem t59_20 (C : xF) (s n : Nat) (z : xS) : x_to q_k59 C s (n + 1) 20 z = x_nx q_k59 C s n ((x_gf 23 2 1) C z) := x_to_at f59_20 C s n z
theorem f59_23 : x_fetch q_k59 23 = x_lda 25 4 := rfl
theorem t59_23 (C : xF) (s n : Nat) (z : xS) : x_to q_k59 C s (n + 1) 23 z = x_nx q_k59 C s n ((x_lda 25 4) C z) := x_to_at f59_23 C s n z
theorem f59_25 : x_fetch q_k59 25 = x_st (x_push 27 (.int (26))) := rfl
theorem t59_25 (C : xF) (s n : Nat) (z : xS) : x_to q_k59 C s (n + 1) 25 z = x_nx q_k59 C s n ((x_st (x_push 27 (.int (26)))) C z) := x_to_at f59_25 C s n z
theorem f59_27 : x_fetch q_k59 27 = x_cv 30 41 3 5 := rfl
theorem t59_27 (C : xF) (s n : Nat) (z : xS) : x_to q_k59 C s (n + 1) 27 z = x_nx q_k59 C s n ((x_cv 30 41 3 5) C z) := x_to_at f59_27 C s n z
theorem f59_30 : x_fetch q_k59 30 = x_lda 31 0 := rfl
theorem t59_30 (C : xF) (s n : Nat) (z : xS) : x_to q_k59 C s (n + 1) 30 z = x_nx q_k59 C s n ((x_lda 31 0) C z) := x_to_at f59_30 C s n z
theorem f59_31 : x_fetch q_k59 31 = x_gf 34 2 1 := rfl
theorem t59_31 (C : xF) (s n : Nat) (z : xS) : x_to q_k59 C s (n + 1) 31 z = x_nx q_k59 C s n ((x_gf 34 2 1) C z) := x_to_at f59_31 C s n z
theorem f59_34 : x_fetch q_k59 34 = x_cv 37 42 1 5 := rfl
theorem t59_34 (C : xF) (s n : Nat) (z : xS) : x_to q_k59 C s (n + 1) 34 z = x_nx q_k59 C s n ((x_cv 37 42 1 5) C z) := x_to_at f59_34 C s n z
theorem f59_37 : x_fetch q_k59 37 = x_lda 38 0 := rfl
theorem t59_37 (C : xF) (s n : Nat) (z : xS) : x_to q_k59 C s (n + 1) 37 z = x_nx q_k59 C s n ((x_lda 38 0) C z) := x_to_at f59_37 C s n z
theorem f59_38 : x_fetch q_k59 38 = x_ldi 39 1 := rfl
theorem t59_38 (C : xF) (s n : Nat) (z : xS) : x_to q_k59 C s (n + 1) 38 z = x_nx q_k59 C s n ((x_ldi 39 1) C z) := x_to_at f59_38 C s n z
theorem f59_39 : x_fetch q_k59 39 = x_lda 40 2 := rfl
theorem t59_39 (C : xF) (s n : Nat) (z : xS) : x_to q_k59 C s (n + 1) 39 z = x_nx q_k59 C s n ((x_lda 40 2) C z) := x_to_at f59_39 C s n z
theorem f59_40 : x_fetch q_k59 40 = x_ldi 41 3 := rfl
theorem t59_40 (C : xF) (s n : Nat) (z : xS) : x_to q_k59 C s (n + 1) 40 z = x_nx q_k59 C s n ((x_ldi 41 3) C z) := x_to_at f59_40 C s n z
theorem f59_41 : x_fetch q_k59 41 = x_lda 43 4 := rfl
theorem t59_41 (C : xF) (s n : Nat) (z : xS) : x_to q_k59 C s (n + 1) 41 z = x_nx q_k59 C s n ((x_lda 43 4) C z) := x_to_at f59_41 C s n z
theorem f59_43 : x_fetch q_k59 43 = x_ldi 45 5 := rfl
theorem t59_43 (C : xF) (s n : Nat) (z : xS) : x_to q_k59 C s (n + 1) 43 z = x_nx q_k59 C s n ((x_ldi 45 5) C z) := x_to_at f59_43 C s n z
theorem f59_45 : x_fetch q_k59 45 = x_ldi 47 6 := rfl
theorem t59_45 (C : xF) (s n : Nat) (z : xS) : x_to q_k59 C s (n + 1) 45 z = x_nx q_k59 C s n ((x_ldi 47 6) C z) := x_to_at f59_45 C s n z
theorem f59_47 : x_fetch q_k59 47 = x_cv 50 60 7 2 := rfl
theorem t59_47 (C : xF) (s n : Nat) (z : xS) : x_to q_k59 C s (n + 1) 47 z = x_nx q_k59 C s n ((x_cv 50 60 7 2) C z) := x_to_at f59_47 C s n z
theorem f59_50 : x_fetch q_k59 50 = x_st (x_ifne 56 53) := rfl
theorem t59_50 (C : xF) (s n : Nat) (z : xS) : x_to q_k59 C s (n + 1) 50 z = x_nx q_k59 C s n ((x_st (x_ifne 56 53)) C z) := x_to_at f59_50 C s n z
theorem f59_53 : x_fetch q_k59 53 = x_st (x_push 55 (.int (-5))) := rfl
theorem t59_53 (C : xF) (s n : Nat) (z : xS) : x_to q_k59 C s (n + 1) 53 z = x_nx q_k59 C s n ((x_st (x_push 55 (.int (-5)))) C z) := x_to_at f59_53 C s n z
theorem f59_55 : x_fetch q_k59 55 = x_ri (.int) := rfl
theorem t59_55 (C : xF) (s n : Nat) (z : xS) : x_to q_k59 C s (n + 1) 55 z = x_nx q_k59 C s n ((x_ri (.int)) C z) := x_to_at f59_55 C s n z
theorem f59_56 : x_fetch q_k59 56 = x_lda 57 0 := rfl
theorem t59_56 (C : xF) (s n : Nat) (z : xS) : x_to q_k59 C s (n + 1) 56 z = x_nx q_k59 C s n ((x_lda 57 0) C z) := x_to_at f59_56 C s n z
theorem f59_57 : x_fetch q_k59 57 = x_gf 60 2 1 := rfl
theorem t59_57 (C : xF) (s n : Nat) (z : xS) : x_to q_k59 C s (n + 1) 57 z = x_nx q_k59 C s n ((x_gf 60 2 1) C z) := x_to_at f59_57 C s n z
theorem f59_60 : x_fetch q_k59 60 = x_lda 61 0 := rfl
theorem t59_60 (C : xF) (s n : Nat) (z : xS) : x_to q_k59 C s (n + 1) 60 z = x_nx q_k59 C s n ((x_lda 61 0) C z) := x_to_at f59_60 C s n z
theorem f59_61 : x_fetch q_k59 61 = x_gf 64 2 2 := rfl
theorem t59_61 (C : xF) (s n : Nat) (z : xS) : x_to q_k59 C s (n + 1) 61 z = x_nx q_k59 C s n ((x_gf 64 2 2) C z) := x_to_at f59_61 C s n z
theorem f59_64 : x_fetch q_k59 64 = x_lda 65 0 := rfl
theorem t59_64 (C : xF) (s n : Nat) (z : xS) : x_to q_k59 C s (n + 1) 64 z = x_nx q_k59 C s n ((x_lda 65 0) C z) := x_to_at f59_64 C s n z
theorem f59_65 : x_fetch q_k59 65 = x_gf 68 2 3 := rfl
theorem t59_65 (C : xF) (s n : Nat) (z : xS) : x_to q_k59 C s (n + 1) 65 z = x_nx q_k59 C s n ((x_gf 68 2 3) C z) := x_to_at f59_65 C s n z
theorem f59_68 : x_fetch q_k59 68 = x_cv 71 44 3 5 := rfl
theorem t59_68 (C : xF) (s n : Nat) (z : xS) : x_to q_k59 C s (n + 1) 68 z = x_nx q_k59 C s n ((x_cv 71 44 3 5) C z) := x_to_at f59_68 C s n z
theorem f59_71 : x_fetch q_k59 71 = x_st (x_ifne 77 74) := rfl
theorem t59_71 (C : xF) (s n : Nat) (z : xS) : x_to q_k59 C s (n + 1) 71 z = x_nx q_k59 C s n ((x_st (x_ifne 77 74)) C z) := x_to_at f59_71 C s n z
theorem f59_74 : x_fetch q_k59 74 = x_st (x_push 76 (.int (-6))) := rfl
theorem t59_74 (C : xF) (s n : Nat) (z : xS) : x_to q_k59 C s (n + 1) 74 z = x_nx q_k59 C s n ((x_st (x_push 76 (.int (-6)))) C z) := x_to_at f59_74 C s n z
theorem f59_76 : x_fetch q_k59 76 = x_ri (.int) := rfl
theorem t59_76 (C : xF) (s n : Nat) (z : xS) : x_to q_k59 C s (n + 1) 76 z = x_nx q_k59 C s n ((x_ri (.int)) C z) := x_to_at f59_76 C s n z
theorem f59_77 : x_fetch q_k59 77 = x_lda 78 0 := rfl
theorem t59_77 (C : xF) (s n : Nat) (z : xS) : x_to q_k59 C s (n + 1) 77 z = x_nx q_k59 C s n ((x_lda 78 0) C z) := x_to_at f59_77 C s n z
theorem f59_78 : x_fetch q_k59 78 = x_gf 81 2 0 := rfl
theorem t59_78 (C : xF) (s n : Nat) (z : xS) : x_to q_k59 C s (n + 1) 78 z = x_nx q_k59 C s n ((x_gf 81 2 0) C z) := x_to_at f59_78 C s n z
theorem f59_81 : x_fetch q_k59 81 = x_cv 84 10 1 4 := rfl
theorem t59_81 (C : xF) (s n : Nat) (z : xS) : x_to q_k59 C s (n + 1) 81 z = x_nx q_k59 C s n ((x_cv 84 10 1 4) C z) := x_to_at f59_81 C s n z
theorem f59_84 : x_fetch q_k59 84 = x_lda 85 0 := rfl
theorem t59_84 (C : xF) (s n : Nat) (z : xS) : x_to q_k59 C s (n + 1) 84 z = x_nx q_k59 C s n ((x_lda 85 0) C z) := x_to_at f59_84 C s n z
theorem f59_85 : x_fetch q_k59 85 = x_lda 86 2 := rfl
theorem t59_85 (C : xF) (s n : Nat) (z : xS) : x_to q_k59 C s (n + 1) 85 z = x_nx q_k59 C s n ((x_lda 86 2) C z) := x_to_at f59_85 C s n z
theorem f59_86 : x_fetch q_k59 86 = x_st (x_push 87 (.int (0))) := rfl
theorem t59_86 (C : xF) (s n : Nat) (z : xS) : x_to q_k59 C s (n + 1) 86 z = x_nx q_k59 C s n ((x_st (x_push 87 (.int (0)))) C z) := x_to_at f59_86 C s n z
theorem f59_87 : x_fetch q_k59 87 = x_cv 90 65 3 2 := rfl
theorem t59_87 (C : xF) (s n : Nat) (z : xS) : x_to q_k59 C s (n + 1) 87 z = x_nx q_k59 C s n ((x_cv 90 65 3 2) C z) := x_to_at f59_87 C s n z
theorem f59_90 : x_fetch q_k59 90 = x_st (x_ifeq 115 93) := rfl
theorem t59_90 (C : xF) (s n : Nat) (z : xS) : x_to q_k59 C s (n + 1) 90 z = x_nx q_k59 C s n ((x_st (x_ifeq 115 93)) C z) := x_to_at f59_90 C s n z
theorem f59_93 : x_fetch q_k59 93 = x_ldi 95 7 := rfl
theorem t59_93 (C : xF) (s n : Nat) (z : xS) : x_to q_k59 C s (n + 1) 93 z = x_nx q_k59 C s n ((x_ldi 95 7) C z) := x_to_at f59_93 C s n z
theorem f59_95 : x_fetch q_k59 95 = x_st (x_ifeq 111 98) := rfl
theorem t59_95 (C : xF) (s n : Nat) (z : xS) : x_to q_k59 C s (n + 1) 95 z = x_nx q_k59 C s n ((x_st (x_ifeq 111 98)) C z) := x_to_at f59_95 C s n z
theorem f59_98 : x_fetch q_k59 98 = x_lda 99 0 := rfl
theorem t59_98 (C : xF) (s n : Nat) (z : xS) : x_to q_k59 C s (n + 1) 98 z = x_nx q_k59 C s n ((x_lda 99 0) C z) := x_to_at f59_98 C s n z
theorem f59_99 : x_fetch q_k59 99 = x_lda 101 4 := rfl
theorem t59_99 (C : xF) (s n : Nat) (z : xS) : x_to q_k59 C s (n + 1) 99 z = x_nx q_k59 C s n ((x_lda 101 4) C z) := x_to_at f59_99 C s n z
theorem f59_101 : x_fetch q_k59 101 = x_lda 102 2 := rfl
theorem t59_101 (C : xF) (s n : Nat) (z : xS) : x_to q_k59 C s (n + 1) 101 z = x_nx q_k59 C s n ((x_lda 102 2) C z) := x_to_at f59_101 C s n z
theorem f59_102 : x_fetch q_k59 102 = x_gf 105 4 4 := rfl
theorem t59_102 (C : xF) (s n : Nat) (z : xS) : x_to q_k59 C s (n + 1) 102 z = x_nx q_k59 C s n ((x_gf 105 4 4) C z) := x_to_at f59_102 C s n z
theorem f59_105 : x_fetch q_k59 105 = x_cv 108 65 3 2 := rfl
theorem t59_105 (C : xF) (s n : Nat) (z : xS) : x_to q_k59 C s (n + 1) 105 z = x_nx q_k59 C s n ((x_cv 108 65 3 2) C z) := x_to_at f59_105 C s n z
theorem f59_108 : x_fetch q_k59 108 = x_st (x_ifeq 115 111) := rfl
theorem t59_108 (C : xF) (s n : Nat) (z : xS) : x_to q_k59 C s (n + 1) 108 z = x_nx q_k59 C s n ((x_st (x_ifeq 115 111)) C z) := x_to_at f59_108 C s n z
theorem f59_111 : x_fetch q_k59 111 = x_st (x_push 112 (.int (1))) := rfl
theorem t59_111 (C : xF) (s n : Nat) (z : xS) : x_to q_k59 C s (n + 1) 111 z = x_nx q_k59 C s n ((x_st (x_push 112 (.int (1)))) C z) := x_to_at f59_111 C s n z
theorem f59_112 : x_fetch q_k59 112 = x_st (x_goto 116) := rfl
theorem t59_112 (C : xF) (s n : Nat) (z : xS) : x_to q_k59 C s (n + 1) 112 z = x_nx q_k59 C s n ((x_st (x_goto 116)) C z) := x_to_at f59_112 C s n z
theorem f59_115 : x_fetch q_k59 115 = x_st (x_push 116 (.int (0))) := rfl
theorem t59_115 (C : xF) (s n : Nat) (z : xS) : x_to q_k59 C s (n + 1) 115 z = x_nx q_k59 C s n ((x_st (x_push 116 (.int (0)))) C z) := x_to_at f59_115 C s n z
theorem f59_116 : x_fetch q_k59 116 = x_sti 118 8 := rfl
theorem t59_116 (C : xF) (s n : Nat) (z : xS) : x_to q_k59 C s (n + 1) 116 z = x_nx q_k59 C s n ((x_sti 118 8) C z) := x_to_at f59_116 C s n z
theorem f59_118 : x_fetch q_k59 118 = x_ldi 120 8 := rfl
theorem t59_118 (C : xF) (s n : Nat) (z : xS) : x_to q_k59 C s (n + 1) 118 z = x_nx q_k59 C s n ((x_ldi 120 8) C z) := x_to_at f59_118 C s n z
theorem f59_120 : x_fetch q_k59 120 = x_st (x_ifeq 139 123) := rfl
theorem t59_120 (C : xF) (s n : Nat) (z : xS) : x_to q_k59 C s (n + 1) 120 z = x_nx q_k59 C s n ((x_st (x_ifeq 139 123)) C z) := x_to_at f59_120 C s n z
theorem f59_123 : x_fetch q_k59 123 = x_lda 124 0 := rfl
theorem t59_123 (C : xF) (s n : Nat) (z : xS) : x_to q_k59 C s (n + 1) 123 z = x_nx q_k59 C s n ((x_lda 124 0) C z) := x_to_at f59_123 C s n z
theorem f59_124 : x_fetch q_k59 124 = x_gf 127 2 0 := rfl
theorem t59_124 (C : xF) (s n : Nat) (z : xS) : x_to q_k59 C s (n + 1) 124 z = x_nx q_k59 C s n ((x_gf 127 2 0) C z) := x_to_at f59_124 C s n z
theorem f59_127 : x_fetch q_k59 127 = x_cv 130 21 1 4 := rfl
theorem t59_127 (C : xF) (s n : Nat) (z : xS) : x_to q_k59 C s (n + 1) 127 z = x_nx q_k59 C s n ((x_cv 130 21 1 4) C z) := x_to_at f59_127 C s n z
theorem f59_130 : x_fetch q_k59 130 = x_st (x_push 132 (.int (26))) := rfl
theorem t59_130 (C : xF) (s n : Nat) (z : xS) : x_to q_k59 C s (n + 1) 130 z = x_nx q_k59 C s n ((x_st (x_push 132 (.int (26)))) C z) := x_to_at f59_130 C s n z
theorem f59_132 : x_fetch q_k59 132 = x_st (x_icgt 139 135) := rfl
theorem t59_132 (C : xF) (s n : Nat) (z : xS) : x_to q_k59 C s (n + 1) 132 z = x_nx q_k59 C s n ((x_st (x_icgt 139 135)) C z) := x_to_at f59_132 C s n z
theorem f59_135 : x_fetch q_k59 135 = x_st (x_push 136 (.int (0))) := rfl
theorem t59_135 (C : xF) (s n : Nat) (z : xS) : x_to q_k59 C s (n + 1) 135 z = x_nx q_k59 C s n ((x_st (x_push 136 (.int (0)))) C z) := x_to_at f59_135 C s n z
theorem f59_136 : x_fetch q_k59 136 = x_st (x_goto 141) := rfl
theorem t59_136 (C : xF) (s n : Nat) (z : xS) : x_to q_k59 C s (n + 1) 136 z = x_nx q_k59 C s n ((x_st (x_goto 141)) C z) := x_to_at f59_136 C s n z
theorem f59_139 : x_fetch q_k59 139 = x_st (x_push 141 (.int (-7))) := rfl
theorem t59_139 (C : xF) (s n : Nat) (z : xS) : x_to q_k59 C s (n + 1) 139 z = x_nx q_k59 C s n ((x_st (x_push 141 (.int (-7)))) C z) := x_to_at f59_139 C s n z
theorem f59_141 : x_fetch q_k59 141 = x_ri (.int) := rfl
theorem t59_141 (C : xF) (s n : Nat) (z : xS) : x_to q_k59 C s (n + 1) 141 z = x_nx q_k59 C s n ((x_ri (.int)) C z) := x_to_at f59_141 C s n z
def ksX : List Nat := [11, 12, 13, 14, 15, 16, 17, 18, 19, 20, 21, 22, 23]
def DI (w : Nat → xC) : Prop := (∃ q1 q2 q3 q4 q5 q6, w 11 = dO q1 q2 q3 q4 q5 q6) ∧ FF w ∧ GIn w
def RG (w : Nat → xC) (P Sy Ee Ro : List Int) : Prop := (∃ wt, w 16 = gO P.length wt) ∧ GV P Sy P.length ∧ w 17 = cI 0 Sy ∧ w 18 = cI 0 Ee ∧ Ee.length = 80 ∧ (∀ i : Int, 0 ≤ i → i < P.length → gZ Ee i = i + (tm P i.toNat).length) ∧ w 19 = cI 0 Ro ∧ Ro.length = 80 ∧ (∀ i, 0 ≤ i → i < 80 → 0 ≤ gZ Ro i ∧ gZ Ro i < 80) ∧ (∀ x y, x < P.length → y < P.length → UJ P x y (rF Ro) [(x, y)]) ∧ (∃ Fs : List Int, w 20 = cI 0 Fs ∧ Fs.length = 52) ∧ (∃ Fi : List Int, w 21 = cI 1 Fi ∧ Fi.length = 80 ∧ ∀ i, gZ Fi i = 0 ∨ gZ Fi i = 1) ∧ (∃ Os : List Int, w 22 = cI 0 Os ∧ Os.length = 241) ∧ (∃ Ot : List Int, w 23 = cI 0 Ot ∧ Ot.length = 241) ∧ (∀ i : Nat, i < P.length → ¬ pz P i < 99 → gZ Sy i = vc (pz P i)) ∧ ∀ i : Nat, i < P.length → sgV (pz P i)
theorem RG.gi {w : Nat → xC} {P Sy Ee Ro : List Int} (h : RG w P Sy Ee Ro) : GIn w := by
  obtain ⟨⟨wt, h1⟩, h2, h3, h4, h5, h6, h7, h8, h9, h10, ⟨Fs, h11, h12⟩, ⟨Fi, h13, h14, h15⟩, ⟨Os, h16, h17⟩, ⟨Ot, h18, h19⟩, h20⟩ := h
  exact ⟨_, wt, Sy, Ee, Ro, Fs, Fi, Os, Ot, h1, h3, h2.2.2.1, h4, h5, h7, h8, h9, h11, h12, h13, h14, h15, h16, h17, h18, h19⟩
theorem di_le {w w' : Nat → xC} {N : Nat} (f : Fr ksX w w') (a : DI w) (b : DI w') : x_le (hp w N) (hp w' N) := hp_le (Nat.le_refl _) (fun j _ => by
  by_cases hj : j ∈ ksX
  · obtain ⟨⟨q1, q2, q3, q4, q5, q6, a0⟩, ⟨S, E, B, c, ln, o, ⟨a1, a2, a3, a4⟩, a5, a6, a7⟩, ⟨l, wt, Sy, Ee, Ro, Fs, Fi, Os, Ot, g1, g2, g3, g4, g5, g6, g7, g8, g9, g10, g11, g12, g13, g14, g15, g16, g17⟩⟩ := a
    obtain ⟨⟨p1, p2, p3, p4, p5, p6, b0⟩, ⟨S', E', B', c', ln', o', ⟨b1, b2, b3, b4⟩, b5, b6, b7⟩, ⟨l', wt', Sy', Ee', Ro', Fs', Fi', Os', Ot', k1, k2, k3, k4, k5, k6, k7, k8, k9, k10, k11, k12, k13, k14, k15, k16, k17⟩⟩ := b
    have a2' : w 13 = cI 0 S := a2
    have a3' : w 14 = cI 0 E := a3
    have a4' : w 15 = cI 1 B := a4
    have b2' : w' 13 = cI 0 S' := b2
    have b3' : w' 14 = cI 0 E' := b3
    have b4' : w' 15 = cI 1 B' := b4
    unfold ksX at hj
    simp only [List.mem_cons, List.not_mem_nil, or_false] at hj
    rcases hj with rfl | rfl | rfl | rfl | rfl | rfl | rfl | rfl | rfl | rfl | rfl | rfl | rfl
    · rw [a0, b0]; simp [x_c1]
    · rw [a1, b1]; simp [x_c1]
    · rw [a2', b2']; simp [x_c1, a5, b5]
    · rw [a3', b3']; simp [x_c1, a6, b6]
    · rw [a4', b4']; simp [x_c1, a7, b7]
    · rw [g1, k1]; simp [x_c1, gF]
    · rw [g2, k2]; simp [x_c1, g3, k3]
    · rw [g4, k4]; simp [x_c1, g5, k5]
    · rw [g6, k6]; simp [x_c1, g7, k7]
    · rw [g9, k9]; simp [x_c1, g10, k10]
    · rw [g11, k11]; simp [x_c1, g12, k12]
    · rw [g14, k14]; simp [x_c1, g15, k15]
    · rw [g16, k16]; simp [x_c1, g17, k17]
  · rw [f j hj]
    exact Nat.le_refl _)
theorem GL.rg {w w' : Nat → xC} {P Sy Ro Fs Ee : List Int} (h : GL w P Sy Ro Fs) (f : ∀ j, j ≠ 18 → w' j = w j) (hI : GIn w') {n : Nat} (hT : Ts n P) (hE : w' 18 = cI 0 Ee) (e1 : Ee.length = 80) (hEe : ∀ i : Int, 0 ≤ i → i < P.length → gZ Ee i = i + (tm P i.toNat).length) : RG w' P Sy Ee Ro := by
  have hgv := h.gv hT
  have huj := fun x y hx hy => h.uj (x := x) (y := y) hx hy
  obtain ⟨⟨wt, a1⟩, a2, a3, a4, a5, ar_, a6, a7, a8, a9, a10, a11, a12⟩ := h
  obtain ⟨l, wt', Sy', Ee', Ro', Fs', Fi, Os, Ot, g1, g2, g3, g4, g5, g6, g7, g8, g9, g10, g11, g12, g13, g14, g15, g16, g17⟩ := hI
  refine ⟨⟨wt, (f 16 (by decide)).trans a1⟩, hgv, (f 17 (by decide)).trans a2, hE, e1, hEe, (f 19 (by decide)).trans a4, a5, ar_, huj, ⟨Fs, (f 20 (by decide)).trans a6, a7⟩, ⟨Fi, g11, g12, g13⟩, ⟨Os, g14, g15⟩, ⟨Ot, g16, g17⟩, fun i hi => (a8 i hi).2.2, fun i hi => ?_⟩
  have := a12 _ (pz_mem hi)
  exact ⟨this.1, this.2.1, fun z => by have := this.2.2 z; omega⟩
section DD
variable {N : Nat} {w : Nat → xC} {D D2 : List (Int × List Int)} {a b : Nat} {S E B S2 E2 B2 : List Int} {o o2 : Int} {P Sy Ee Ro : List Int} {l : Int} {fd rk : Nat → Nat} {K : Nat} {q1 q2 f1 f2 pl fi : Int}
/-- the end of apply: the variables get their names -/
theorem e59 (d : Nat) (hN : 53 ≤ N) {C : List (Int × List Int)} (hL : LB w C) (hd : w 11 = dO q1 q2 f1 f2 pl fi) (lv : xL) (hc : c1 lv) (l0 : x_lk lv 0 = some (.ref 14)) :
    ((fvs [] (flt C)).length ≤ 26 → ∃ w', Fr [13] w w' ∧ LB w' (rnD C) ∧ Gx q_k59 (d + 2) 111 (lv, [], hp w N) (some (.int (iZ 0)), hp w' N)) ∧
    (¬ (fvs [] (flt C)).length ≤ 26 → ∃ w', Fr [13] w w' ∧ FF w' ∧ Gx q_k59 (d + 2) 111 (lv, [], hp w N) (some (.int (iZ (-7))), hp w' N)) := by
  obtain ⟨S, E, B, o, hf, nS, lE, lB, hW, hg, f40, c6⟩ := hL
  obtain ⟨S', s1, s2, X⟩ := m21 (N := N) d hf (by omega) hW hg (by omega) (by omega) (by omega)
  have C8 := c1_st (i := 8) (v := .int (iZ 1)) rfl hc
  have hf12 := hf.1
  have F : Fr [13] w (uH w (12 + 1) (cI 0 S')) := (Fr.rf _ _).up (by decide)
  have hf' : fo (uH w (12 + 1) (cI 0 S')) 12 S' E B C.length (flt C).length o := hf.set
  have q80 : (fvs [] (flt C)).length ≤ 10000 := by
    have := fvs_len (flt C) []
    simp only [List.length_nil] at this
    omega
  obtain ⟨n, hn⟩ : ∃ n : Int, n = ((fvs [] (flt C)).length : Int) := ⟨_, rfl⟩
  rw [← hn] at X
  refine ⟨fun h => ⟨_, F, ⟨S', E, B, o, ?_, by rw [s1]; exact nS, lE, lB, s2, ?_, ?_, ?_⟩, Gx.fin 40 X (fun X mm => ?_)⟩, fun h => ⟨_, F, ⟨S', E, B, _, _, _, hf', by rw [s1]; exact nS, lE, lB⟩, Gx.fin 40 X (fun X mm => ?_)⟩⟩
  · rw [rnD_len, flt_rnD, rnm_len]
    exact hf'
  · intro y hy
    unfold rnD at hy
    obtain ⟨z, hz, rfl⟩ := List.mem_map.mp hy
    refine ⟨(hg z hz).1, fun s hs => ?_⟩
    unfold litR ren at hs
    obtain ⟨v, hv, rfl⟩ := List.mem_map.mp hs
    by_cases h9 : v < 99
    · rw [if_pos h9]
      have hm : v ∈ fvs [] (flt C) := fvs_mem (flt_mem hz hv) h9
      have := List.idxOf_lt_length_iff.mpr hm
      dsimp only
      exact ⟨by omega, by omega, fun _ => by omega⟩
    · rw [if_neg h9]
      exact (hg z hz).2 v hv
  · rw [flt_rnD, rnm_len]; exact f40
  · rw [rnD_len]; exact c6
  · have b1 : ¬ 26 < n := by omega
    have b2 : 0 ≤ n := by omega
    simp (disch := first | (refine c1_id ?_; assumption) | (refine c1_st rfl ?_; repeat (first | assumption | refine c1_st rfl ?_)) | omega) [nx_l, nx_r, nx_n, x_st, x_push, x_bin, x_div, x_un, x_dup, x_pop, x_dup2, x_goto, x_ifeq, x_ifne, x_iflt, x_ifge, x_ifgt, x_ifle, x_iceq, x_icne, x_iclt, x_icge, x_icgt, x_icle, x_ifnull, x_ifnonnull, x_ldi, x_lda, x_sti, x_sta, x_iinc, x_gf, x_pf, x_ald, x_ast, x_aln, x_len, x_cl_, x_cv, x_cs, x_rc, x_r0, x_isT, x_oi, x_rv, x_ri, x_ra, Value.category, t59_0, t59_1, t59_4, t59_6, t59_7, t59_10, t59_11, t59_14, t59_16, t59_19, t59_20, t59_23, t59_25, t59_27, t59_30, t59_31, t59_34, t59_37, t59_38, t59_39, t59_40, t59_41, t59_43, t59_45, t59_47, t59_50, t59_53, t59_55, t59_56, t59_57, t59_60, t59_61, t59_64, t59_65, t59_68, t59_71, t59_74, t59_76, t59_77, t59_78, t59_81, t59_84, t59_85, t59_86, t59_87, t59_90, t59_93, t59_95, t59_98, t59_99, t59_101, t59_102, t59_105, t59_108, t59_111, t59_112, t59_115, t59_116, t59_118, t59_120, t59_123, t59_124, t59_127, t59_130, t59_132, t59_135, t59_136, t59_139, t59_141, lk_s, hp_get, hp_set, uH_at, uH_ne, uH_upd, uH_swap, iZ_add, iZ_sub, iZ_mul, iZ_neg, iZ_lt, iZ_le, iZ_eq, iZ_div, iZ_of, ix_Z, gZ_map, gZ_mapI, gZ_map', le_0, le_s, sZ_map, sZ_len, bZ_0, bZ_inj, bZ_t, bZ_f, nr_i, nr_0, nr_1, nr_b, ft_i, ft_b, ft_0, ft_1, zl_0, zl_1, zl_5, zl_6, zl_7, zl_26, l0, hd, hf12, b1, mm, dO, -List.filter_filter, -List.getElem?_map, -List.getD_eq_getElem?_getD]
  · have b1 : 26 < n := by omega
    have b2 : n ≤ 10000 := by omega
    simp (disch := first | (refine c1_id ?_; assumption) | (refine c1_st rfl ?_; repeat (first | assumption | refine c1_st rfl ?_)) | omega) [nx_l, nx_r, nx_n, x_st, x_push, x_bin, x_div, x_un, x_dup, x_pop, x_dup2, x_goto, x_ifeq, x_ifne, x_iflt, x_ifge, x_ifgt, x_ifle, x_iceq, x_icne, x_iclt, x_icge, x_icgt, x_icle, x_ifnull, x_ifnonnull, x_ldi, x_lda, x_sti, x_sta, x_iinc, x_gf, x_pf, x_ald, x_ast, x_aln, x_len, x_cl_, x_cv, x_cs, x_rc, x_r0, x_isT, x_oi, x_rv, x_ri, x_ra, Value.category, t59_0, t59_1, t59_4, t59_6, t59_7, t59_10, t59_11, t59_14, t59_16, t59_19, t59_20, t59_23, t59_25, t59_27, t59_30, t59_31, t59_34, t59_37, t59_38, t59_39, t59_40, t59_41, t59_43, t59_45, t59_47, t59_50, t59_53, t59_55, t59_56, t59_57, t59_60, t59_61, t59_64, t59_65, t59_68, t59_71, t59_74, t59_76, t59_77, t59_78, t59_81, t59_84, t59_85, t59_86, t59_87, t59_90, t59_93, t59_95, t59_98, t59_99, t59_101, t59_102, t59_105, t59_108, t59_111, t59_112, t59_115, t59_116, t59_118, t59_120, t59_123, t59_124, t59_127, t59_130, t59_132, t59_135, t59_136, t59_139, t59_141, lk_s, hp_get, hp_set, uH_at, uH_ne, uH_upd, uH_swap, iZ_add, iZ_sub, iZ_mul, iZ_neg, iZ_lt, iZ_le, iZ_eq, iZ_div, iZ_of, ix_Z, gZ_map, gZ_mapI, gZ_map', le_0, le_s, sZ_map, sZ_len, bZ_0, bZ_inj, bZ_t, bZ_f, nr_i, nr_0, nr_1, nr_b, ft_i, ft_b, ft_0, ft_1, zl_0, zl_1, zl_5, zl_6, zl_7, zl_26, l0, hd, hf12, b1, mm, dO, -List.filter_filter, -List.getElem?_map, -List.getD_eq_getElem?_getD]
end DD
