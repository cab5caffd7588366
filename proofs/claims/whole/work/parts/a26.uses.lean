/-! the class: how letters are used -/
theorem f38_0 : x_fetch q_k38 0 = x_st (x_push 1 (.int (0))) := rfl
theorem t38_0 (C : xF) (s n : Nat) (z : xS) : x_to q_k38 C s (n + 1) 0 z = x_nx q_k38 C s n ((x_st (x_push 1 (.int (0)))) C z) := x_to_at f38_0 C s n z
theorem f38_1 : x_fetch q_k38 1 = x_sti 2 2 := rfl
theorem t38_1 (C : xF) (s n : Nat) (z : xS) : x_to q_k38 C s (n + 1) 1 z = x_nx q_k38 C s n ((x_sti 2 2) C z) := x_to_at f38_1 C s n z
theorem f38_2 : x_fetch q_k38 2 = x_ldi 3 2 := rfl
theorem t38_2 (C : xF) (s n : Nat) (z : xS) : x_to q_k38 C s (n + 1) 2 z = x_nx q_k38 C s n ((x_ldi 3 2) C z) := x_to_at f38_2 C s n z
theorem f38_3 : x_fetch q_k38 3 = x_lda 4 0 := rfl
theorem t38_3 (C : xF) (s n : Nat) (z : xS) : x_to q_k38 C s (n + 1) 3 z = x_nx q_k38 C s n ((x_lda 4 0) C z) := x_to_at f38_3 C s n z
theorem f38_4 : x_fetch q_k38 4 = x_gf 7 4 3 := rfl
theorem t38_4 (C : xF) (s n : Nat) (z : xS) : x_to q_k38 C s (n + 1) 4 z = x_nx q_k38 C s n ((x_gf 7 4 3) C z) := x_to_at f38_4 C s n z
theorem f38_7 : x_fetch q_k38 7 = x_st (x_icge 117 10) := rfl
theorem t38_7 (C : xF) (s n : Nat) (z : xS) : x_to q_k38 C s (n + 1) 7 z = x_nx q_k38 C s n ((x_st (x_icge 117 10)) C z) := x_to_at f38_7 C s n z
theorem f38_10 : x_fetch q_k38 10 = x_lda 11 0 := rfl
theorem t38_10 (C : xF) (s n : Nat) (z : xS) : x_to q_k38 C s (n + 1) 10 z = x_nx q_k38 C s n ((x_lda 11 0) C z) := x_to_at f38_10 C s n z
theorem f38_11 : x_fetch q_k38 11 = x_ldi 12 2 := rfl
theorem t38_11 (C : xF) (s n : Nat) (z : xS) : x_to q_k38 C s (n + 1) 11 z = x_nx q_k38 C s n ((x_ldi 12 2) C z) := x_to_at f38_11 C s n z
theorem f38_12 : x_fetch q_k38 12 = x_cv 15 11 2 4 := rfl
theorem t38_12 (C : xF) (s n : Nat) (z : xS) : x_to q_k38 C s (n + 1) 12 z = x_nx q_k38 C s n ((x_cv 15 11 2 4) C z) := x_to_at f38_12 C s n z
theorem f38_15 : x_fetch q_k38 15 = x_sti 16 3 := rfl
theorem t38_15 (C : xF) (s n : Nat) (z : xS) : x_to q_k38 C s (n + 1) 15 z = x_nx q_k38 C s n ((x_sti 16 3) C z) := x_to_at f38_15 C s n z
theorem f38_16 : x_fetch q_k38 16 = x_ldi 17 3 := rfl
theorem t38_16 (C : xF) (s n : Nat) (z : xS) : x_to q_k38 C s (n + 1) 16 z = x_nx q_k38 C s n ((x_ldi 17 3) C z) := x_to_at f38_16 C s n z
theorem f38_17 : x_fetch q_k38 17 = x_sti 19 4 := rfl
theorem t38_17 (C : xF) (s n : Nat) (z : xS) : x_to q_k38 C s (n + 1) 17 z = x_nx q_k38 C s n ((x_sti 19 4) C z) := x_to_at f38_17 C s n z
theorem f38_19 : x_fetch q_k38 19 = x_ldi 21 4 := rfl
theorem t38_19 (C : xF) (s n : Nat) (z : xS) : x_to q_k38 C s (n + 1) 19 z = x_nx q_k38 C s n ((x_ldi 21 4) C z) := x_to_at f38_19 C s n z
theorem f38_21 : x_fetch q_k38 21 = x_lda 22 0 := rfl
theorem t38_21 (C : xF) (s n : Nat) (z : xS) : x_to q_k38 C s (n + 1) 21 z = x_nx q_k38 C s n ((x_lda 22 0) C z) := x_to_at f38_21 C s n z
theorem f38_22 : x_fetch q_k38 22 = x_gf 25 4 1 := rfl
theorem t38_22 (C : xF) (s n : Nat) (z : xS) : x_to q_k38 C s (n + 1) 22 z = x_nx q_k38 C s n ((x_gf 25 4 1) C z) := x_to_at f38_22 C s n z
theorem f38_25 : x_fetch q_k38 25 = x_ldi 26 2 := rfl
theorem t38_25 (C : xF) (s n : Nat) (z : xS) : x_to q_k38 C s (n + 1) 25 z = x_nx q_k38 C s n ((x_ldi 26 2) C z) := x_to_at f38_25 C s n z
theorem f38_26 : x_fetch q_k38 26 = x_ald 27 0 := rfl
theorem t38_26 (C : xF) (s n : Nat) (z : xS) : x_to q_k38 C s (n + 1) 26 z = x_nx q_k38 C s n ((x_ald 27 0) C z) := x_to_at f38_26 C s n z
theorem f38_27 : x_fetch q_k38 27 = x_st (x_icge 111 30) := rfl
theorem t38_27 (C : xF) (s n : Nat) (z : xS) : x_to q_k38 C s (n + 1) 27 z = x_nx q_k38 C s n ((x_st (x_icge 111 30)) C z) := x_to_at f38_27 C s n z
theorem f38_30 : x_fetch q_k38 30 = x_lda 31 0 := rfl
theorem t38_30 (C : xF) (s n : Nat) (z : xS) : x_to q_k38 C s (n + 1) 30 z = x_nx q_k38 C s n ((x_lda 31 0) C z) := x_to_at f38_30 C s n z
theorem f38_31 : x_fetch q_k38 31 = x_gf 34 4 0 := rfl
theorem t38_31 (C : xF) (s n : Nat) (z : xS) : x_to q_k38 C s (n + 1) 31 z = x_nx q_k38 C s n ((x_gf 34 4 0) C z) := x_to_at f38_31 C s n z
theorem f38_34 : x_fetch q_k38 34 = x_ldi 36 4 := rfl
theorem t38_34 (C : xF) (s n : Nat) (z : xS) : x_to q_k38 C s (n + 1) 34 z = x_nx q_k38 C s n ((x_ldi 36 4) C z) := x_to_at f38_34 C s n z
theorem f38_36 : x_fetch q_k38 36 = x_ald 37 0 := rfl
theorem t38_36 (C : xF) (s n : Nat) (z : xS) : x_to q_k38 C s (n + 1) 36 z = x_nx q_k38 C s n ((x_ald 37 0) C z) := x_to_at f38_36 C s n z
theorem f38_37 : x_fetch q_k38 37 = x_sti 39 5 := rfl
theorem t38_37 (C : xF) (s n : Nat) (z : xS) : x_to q_k38 C s (n + 1) 37 z = x_nx q_k38 C s n ((x_sti 39 5) C z) := x_to_at f38_37 C s n z
theorem f38_39 : x_fetch q_k38 39 = x_ldi 41 5 := rfl
theorem t38_39 (C : xF) (s n : Nat) (z : xS) : x_to q_k38 C s (n + 1) 39 z = x_nx q_k38 C s n ((x_ldi 41 5) C z) := x_to_at f38_39 C s n z
theorem f38_41 : x_fetch q_k38 41 = x_cl_ 44 4 1 := rfl
theorem t38_41 (C : xF) (s n : Nat) (z : xS) : x_to q_k38 C s (n + 1) 41 z = x_nx q_k38 C s n ((x_cl_ 44 4 1) C z) := x_to_at f38_41 C s n z
theorem f38_44 : x_fetch q_k38 44 = x_sti 46 6 := rfl
theorem t38_44 (C : xF) (s n : Nat) (z : xS) : x_to q_k38 C s (n + 1) 44 z = x_nx q_k38 C s n ((x_sti 46 6) C z) := x_to_at f38_44 C s n z
theorem f38_46 : x_fetch q_k38 46 = x_st (x_push 47 (.int (1))) := rfl
theorem t38_46 (C : xF) (s n : Nat) (z : xS) : x_to q_k38 C s (n + 1) 46 z = x_nx q_k38 C s n ((x_st (x_push 47 (.int (1)))) C z) := x_to_at f38_46 C s n z
theorem f38_47 : x_fetch q_k38 47 = x_ldi 49 5 := rfl
theorem t38_47 (C : xF) (s n : Nat) (z : xS) : x_to q_k38 C s (n + 1) 47 z = x_nx q_k38 C s n ((x_ldi 49 5) C z) := x_to_at f38_47 C s n z
theorem f38_49 : x_fetch q_k38 49 = x_cl_ 52 5 1 := rfl
theorem t38_49 (C : xF) (s n : Nat) (z : xS) : x_to q_k38 C s (n + 1) 49 z = x_nx q_k38 C s n ((x_cl_ 52 5 1) C z) := x_to_at f38_49 C s n z
theorem f38_52 : x_fetch q_k38 52 = x_st (x_bin 53 (fun a b => a + b)) := rfl
theorem t38_52 (C : xF) (s n : Nat) (z : xS) : x_to q_k38 C s (n + 1) 52 z = x_nx q_k38 C s n ((x_st (x_bin 53 (fun a b => a + b))) C z) := x_to_at f38_52 C s n z
theorem f38_53 : x_fetch q_k38 53 = x_ldi 55 4 := rfl
theorem t38_53 (C : xF) (s n : Nat) (z : xS) : x_to q_k38 C s (n + 1) 53 z = x_nx q_k38 C s n ((x_ldi 55 4) C z) := x_to_at f38_53 C s n z
theorem f38_55 : x_fetch q_k38 55 = x_ldi 56 3 := rfl
theorem t38_55 (C : xF) (s n : Nat) (z : xS) : x_to q_k38 C s (n + 1) 55 z = x_nx q_k38 C s n ((x_ldi 56 3) C z) := x_to_at f38_55 C s n z
theorem f38_56 : x_fetch q_k38 56 = x_st (x_icne 63 59) := rfl
theorem t38_56 (C : xF) (s n : Nat) (z : xS) : x_to q_k38 C s (n + 1) 56 z = x_nx q_k38 C s n ((x_st (x_icne 63 59)) C z) := x_to_at f38_56 C s n z
theorem f38_59 : x_fetch q_k38 59 = x_st (x_push 60 (.int (4))) := rfl
theorem t38_59 (C : xF) (s n : Nat) (z : xS) : x_to q_k38 C s (n + 1) 59 z = x_nx q_k38 C s n ((x_st (x_push 60 (.int (4)))) C z) := x_to_at f38_59 C s n z
theorem f38_60 : x_fetch q_k38 60 = x_st (x_goto 64) := rfl
theorem t38_60 (C : xF) (s n : Nat) (z : xS) : x_to q_k38 C s (n + 1) 60 z = x_nx q_k38 C s n ((x_st (x_goto 64)) C z) := x_to_at f38_60 C s n z
theorem f38_63 : x_fetch q_k38 63 = x_st (x_push 64 (.int (0))) := rfl
theorem t38_63 (C : xF) (s n : Nat) (z : xS) : x_to q_k38 C s (n + 1) 63 z = x_nx q_k38 C s n ((x_st (x_push 64 (.int (0)))) C z) := x_to_at f38_63 C s n z
theorem f38_64 : x_fetch q_k38 64 = x_st (x_bin 65 (fun a b => a + b)) := rfl
theorem t38_64 (C : xF) (s n : Nat) (z : xS) : x_to q_k38 C s (n + 1) 64 z = x_nx q_k38 C s n ((x_st (x_bin 65 (fun a b => a + b))) C z) := x_to_at f38_64 C s n z
theorem f38_65 : x_fetch q_k38 65 = x_sti 67 7 := rfl
theorem t38_65 (C : xF) (s n : Nat) (z : xS) : x_to q_k38 C s (n + 1) 65 z = x_nx q_k38 C s n ((x_sti 67 7) C z) := x_to_at f38_65 C s n z
theorem f38_67 : x_fetch q_k38 67 = x_ldi 69 6 := rfl
theorem t38_67 (C : xF) (s n : Nat) (z : xS) : x_to q_k38 C s (n + 1) 67 z = x_nx q_k38 C s n ((x_ldi 69 6) C z) := x_to_at f38_67 C s n z
theorem f38_69 : x_fetch q_k38 69 = x_st (x_push 71 (.int (26))) := rfl
theorem t38_69 (C : xF) (s n : Nat) (z : xS) : x_to q_k38 C s (n + 1) 69 z = x_nx q_k38 C s n ((x_st (x_push 71 (.int (26)))) C z) := x_to_at f38_69 C s n z
theorem f38_71 : x_fetch q_k38 71 = x_st (x_icge 92 74) := rfl
theorem t38_71 (C : xF) (s n : Nat) (z : xS) : x_to q_k38 C s (n + 1) 71 z = x_nx q_k38 C s n ((x_st (x_icge 92 74)) C z) := x_to_at f38_71 C s n z
theorem f38_74 : x_fetch q_k38 74 = x_lda 75 1 := rfl
theorem t38_74 (C : xF) (s n : Nat) (z : xS) : x_to q_k38 C s (n + 1) 74 z = x_nx q_k38 C s n ((x_lda 75 1) C z) := x_to_at f38_74 C s n z
theorem f38_75 : x_fetch q_k38 75 = x_ldi 77 6 := rfl
theorem t38_75 (C : xF) (s n : Nat) (z : xS) : x_to q_k38 C s (n + 1) 75 z = x_nx q_k38 C s n ((x_ldi 77 6) C z) := x_to_at f38_75 C s n z
theorem f38_77 : x_fetch q_k38 77 = x_ald 78 0 := rfl
theorem t38_77 (C : xF) (s n : Nat) (z : xS) : x_to q_k38 C s (n + 1) 77 z = x_nx q_k38 C s n ((x_ald 78 0) C z) := x_to_at f38_77 C s n z
theorem f38_78 : x_fetch q_k38 78 = x_st (x_ifeq 92 81) := rfl
theorem t38_78 (C : xF) (s n : Nat) (z : xS) : x_to q_k38 C s (n + 1) 78 z = x_nx q_k38 C s n ((x_st (x_ifeq 92 81)) C z) := x_to_at f38_78 C s n z
theorem f38_81 : x_fetch q_k38 81 = x_lda 82 1 := rfl
theorem t38_81 (C : xF) (s n : Nat) (z : xS) : x_to q_k38 C s (n + 1) 81 z = x_nx q_k38 C s n ((x_lda 82 1) C z) := x_to_at f38_81 C s n z
theorem f38_82 : x_fetch q_k38 82 = x_ldi 84 6 := rfl
theorem t38_82 (C : xF) (s n : Nat) (z : xS) : x_to q_k38 C s (n + 1) 82 z = x_nx q_k38 C s n ((x_ldi 84 6) C z) := x_to_at f38_82 C s n z
theorem f38_84 : x_fetch q_k38 84 = x_ald 85 0 := rfl
theorem t38_84 (C : xF) (s n : Nat) (z : xS) : x_to q_k38 C s (n + 1) 84 z = x_nx q_k38 C s n ((x_ald 85 0) C z) := x_to_at f38_84 C s n z
theorem f38_85 : x_fetch q_k38 85 = x_ldi 87 7 := rfl
theorem t38_85 (C : xF) (s n : Nat) (z : xS) : x_to q_k38 C s (n + 1) 85 z = x_nx q_k38 C s n ((x_ldi 87 7) C z) := x_to_at f38_85 C s n z
theorem f38_87 : x_fetch q_k38 87 = x_st (x_iceq 92 90) := rfl
theorem t38_87 (C : xF) (s n : Nat) (z : xS) : x_to q_k38 C s (n + 1) 87 z = x_nx q_k38 C s n ((x_st (x_iceq 92 90)) C z) := x_to_at f38_87 C s n z
theorem f38_90 : x_fetch q_k38 90 = x_st (x_push 91 (.int (0))) := rfl
theorem t38_90 (C : xF) (s n : Nat) (z : xS) : x_to q_k38 C s (n + 1) 90 z = x_nx q_k38 C s n ((x_st (x_push 91 (.int (0)))) C z) := x_to_at f38_90 C s n z
theorem f38_91 : x_fetch q_k38 91 = x_ri (.boolean) := rfl
theorem t38_91 (C : xF) (s n : Nat) (z : xS) : x_to q_k38 C s (n + 1) 91 z = x_nx q_k38 C s n ((x_ri (.boolean)) C z) := x_to_at f38_91 C s n z
theorem f38_92 : x_fetch q_k38 92 = x_ldi 94 6 := rfl
theorem t38_92 (C : xF) (s n : Nat) (z : xS) : x_to q_k38 C s (n + 1) 92 z = x_nx q_k38 C s n ((x_ldi 94 6) C z) := x_to_at f38_92 C s n z
theorem f38_94 : x_fetch q_k38 94 = x_st (x_push 96 (.int (26))) := rfl
theorem t38_94 (C : xF) (s n : Nat) (z : xS) : x_to q_k38 C s (n + 1) 94 z = x_nx q_k38 C s n ((x_st (x_push 96 (.int (26)))) C z) := x_to_at f38_94 C s n z
theorem f38_96 : x_fetch q_k38 96 = x_st (x_icge 105 99) := rfl
theorem t38_96 (C : xF) (s n : Nat) (z : xS) : x_to q_k38 C s (n + 1) 96 z = x_nx q_k38 C s n ((x_st (x_icge 105 99)) C z) := x_to_at f38_96 C s n z
theorem f38_99 : x_fetch q_k38 99 = x_lda 100 1 := rfl
theorem t38_99 (C : xF) (s n : Nat) (z : xS) : x_to q_k38 C s (n + 1) 99 z = x_nx q_k38 C s n ((x_lda 100 1) C z) := x_to_at f38_99 C s n z
theorem f38_100 : x_fetch q_k38 100 = x_ldi 102 6 := rfl
theorem t38_100 (C : xF) (s n : Nat) (z : xS) : x_to q_k38 C s (n + 1) 100 z = x_nx q_k38 C s n ((x_ldi 102 6) C z) := x_to_at f38_100 C s n z
theorem f38_102 : x_fetch q_k38 102 = x_ldi 104 7 := rfl
theorem t38_102 (C : xF) (s n : Nat) (z : xS) : x_to q_k38 C s (n + 1) 102 z = x_nx q_k38 C s n ((x_ldi 104 7) C z) := x_to_at f38_102 C s n z
theorem f38_104 : x_fetch q_k38 104 = x_ast 105 0 (fun x => x) := rfl
theorem t38_104 (C : xF) (s n : Nat) (z : xS) : x_to q_k38 C s (n + 1) 104 z = x_nx q_k38 C s n ((x_ast 105 0 (fun x => x)) C z) := x_to_at f38_104 C s n z
theorem f38_105 : x_fetch q_k38 105 = x_iinc 108 4 (1) := rfl
theorem t38_105 (C : xF) (s n : Nat) (z : xS) : x_to q_k38 C s (n + 1) 105 z = x_nx q_k38 C s n ((x_iinc 108 4 (1)) C z) := x_to_at f38_105 C s n z
theorem f38_108 : x_fetch q_k38 108 = x_st (x_goto 19) := rfl
theorem t38_108 (C : xF) (s n : Nat) (z : xS) : x_to q_k38 C s (n + 1) 108 z = x_nx q_k38 C s n ((x_st (x_goto 19)) C z) := x_to_at f38_108 C s n z
theorem f38_111 : x_fetch q_k38 111 = x_iinc 114 2 (1) := rfl
theorem t38_111 (C : xF) (s n : Nat) (z : xS) : x_to q_k38 C s (n + 1) 111 z = x_nx q_k38 C s n ((x_iinc 114 2 (1)) C z) := x_to_at f38_111 C s n z
theorem f38_114 : x_fetch q_k38 114 = x_st (x_goto 2) := rfl
theorem t38_114 (C : xF) (s n : Nat) (z : xS) : x_to q_k38 C s (n + 1) 114 z = x_nx q_k38 C s n ((x_st (x_goto 2)) C z) := x_to_at f38_114 C s n z
theorem f38_117 : x_fetch q_k38 117 = x_st (x_push 118 (.int (1))) := rfl
theorem t38_117 (C : xF) (s n : Nat) (z : xS) : x_to q_k38 C s (n + 1) 117 z = x_nx q_k38 C s n ((x_st (x_push 118 (.int (1)))) C z) := x_to_at f38_117 C s n z
theorem f38_118 : x_fetch q_k38 118 = x_ri (.boolean) := rfl
theorem t38_118 (C : xF) (s n : Nat) (z : xS) : x_to q_k38 C s (n + 1) 118 z = x_nx q_k38 C s n ((x_ri (.boolean)) C z) := x_to_at f38_118 C s n z
def SM (a b : List Int × Bool) : Prop := a.2 = b.2 ∧ (a.2 = false → a.1 = b.1)
theorem nt1_f {h s : Int} {V : List Int} : (nt1 h s (V, true)).2 = true := by
  unfold nt1 us1
  split
  · simp
  · rfl
theorem nt1_t {h s : Int} {z : List Int × Bool} (e : z.2 = true) : (nt1 h s z).2 = true := by
  obtain ⟨V, f⟩ := z
  cases e
  exact nt1_f
theorem ntL_t : ∀ {t : List Int} {z : List Int × Bool}, z.2 = true → (ntL t z).2 = true
  | [], _, e => e
  | _ :: t, _, e => ntL_t (t := t) (nt1_t e)
theorem ntA_t {t : List Int} {z : List Int × Bool} (e : z.2 = true) : (ntA t z).2 = true := by
  cases t with
  | nil => exact e
  | cons s t => exact ntL_t (nt1_t e)
theorem ntC_t : ∀ {l : List (Int × List Int)} {z : List Int × Bool}, z.2 = true → (ntC l z).2 = true
  | [], _, e => e
  | _ :: l, _, e => ntC_t (l := l) (ntA_t e)
theorem ntC_app : ∀ (a b : List (Int × List Int)) (z : List Int × Bool), ntC (a ++ b) z = ntC b (ntC a z)
  | [], _, _ => rfl
  | _ :: a, b, z => ntC_app a b _
def exU (V V' : List Int) : Prop := ∀ i, 0 ≤ i → gZ V i ≠ 0 → gZ V' i = gZ V i
theorem exU.rf (V : List Int) : exU V V := fun _ _ _ => rfl
theorem exU.tr {a b c : List Int} (h : exU a b) (g : exU b c) : exU a c := fun i i0 hi => by
  have := h i i0 hi
  rw [g i i0 (by rw [this]; exact hi), this]
theorem nt1_len {h s : Int} {z : List Int × Bool} : (nt1 h s z).1.length = z.1.length := by
  unfold nt1 us1
  split
  · exact sZ_len _ _ _
  · rfl
theorem ntL_len : ∀ {t : List Int} {z : List Int × Bool}, (ntL t z).1.length = z.1.length
  | [], _ => rfl
  | s :: t, z => (ntL_len (t := t) (z := nt1 1 s z)).trans nt1_len
theorem ntA_len {t : List Int} {z : List Int × Bool} : (ntA t z).1.length = z.1.length := by
  cases t with
  | nil => rfl
  | cons s t => exact ntL_len.trans nt1_len
theorem nt1_ex {h s : Int} {z : List Int × Bool} (hl : z.1.length = 26) (hs : s < 204) (e : (nt1 h s z).2 = false) : z.2 = false ∧ exU z.1 (nt1 h s z).1 ∧ (100 ≤ s → gZ (nt1 h s z).1 ((s - 100) / 4) = (ar s : Int) + h) := by
  unfold nt1 us1 at e ⊢
  by_cases hc : 100 ≤ s
  · rw [if_pos hc] at e ⊢
    simp only [Bool.or_eq_false_iff, Bool.and_eq_false_iff, decide_eq_false_iff_not] at e
    refine ⟨e.1, fun i i0 hi => ?_, fun _ => ?_⟩
    · dsimp only
      rw [gZ_sZ (by omega) (by omega) i0]
      split
      · next q =>
        subst q
        rcases e.2 with e2 | e2
        · exact absurd hi e2
        · exact (Classical.byContradiction (fun z => e2 (fun y => z y.symm)))
      · rfl
    · dsimp only
      rw [gZ_sZ (by omega) (by omega) (by omega), if_pos rfl]
  · rw [if_neg hc] at e ⊢
    exact ⟨e, exU.rf _, fun z => absurd z hc⟩
def knL (V : List Int) (t : List Int) : Prop := ∀ s ∈ t, 100 ≤ s → gZ V ((s - 100) / 4) = (ar s : Int) + 1
def knA (V : List Int) (t : List Int) : Prop := ∀ s u, t = s :: u → (100 ≤ s → gZ V ((s - 100) / 4) = (ar s : Int) + 5) ∧ knL V u
theorem knL.ex {V V' t : List Int} (h : knL V t) (e : exU V V') : knL V' t := fun s hs hc => by
  have := h s hs hc
  rw [e _ (by omega) (by omega), this]
theorem knA.ex {V V' t : List Int} (h : knA V t) (e : exU V V') : knA V' t := fun s u ht => by
  obtain ⟨h1, h2⟩ := h s u ht
  exact ⟨fun hc => by have := h1 hc; rw [e _ (by omega) (by omega), this], h2.ex e⟩
theorem sZ_sm {V : List Int} {c : Int} (h0 : 0 ≤ c) (h1 : c < V.length) : sZ V c (gZ V c) = V := sZ_same rfl h0 h1
theorem nt1_kn {h s : Int} {V : List Int} {f : Bool} (hl : V.length = 26) (hs : s < 204) (e : 100 ≤ s → gZ V ((s - 100) / 4) = (ar s : Int) + h) : nt1 h s (V, f) = (V, f) := by
  unfold nt1 us1
  split
  · next hc =>
    have := e hc
    dsimp only
    rw [← this, sZ_sm (by omega) (by omega)]
    simp
  · rfl
theorem ntL_kn {V : List Int} {f : Bool} (hl : V.length = 26) : ∀ {t : List Int}, (∀ s ∈ t, s < 204) → knL V t → ntL t (V, f) = (V, f)
  | [], _, _ => rfl
  | s :: t, hs, h => by
    show ntL t (nt1 1 s (V, f)) = _
    rw [nt1_kn hl (hs s List.mem_cons_self) (h s List.mem_cons_self)]
    exact ntL_kn hl (fun z hz => hs z (List.mem_cons_of_mem _ hz)) (fun z hz => h z (List.mem_cons_of_mem _ hz))
theorem ntA_kn {V t : List Int} {f : Bool} (hl : V.length = 26) (hs : ∀ s ∈ t, s < 204) (h : knA V t) : ntA t (V, f) = (V, f) := by
  cases t with
  | nil => rfl
  | cons s t =>
    obtain ⟨h1, h2⟩ := h s t rfl
    show ntL t (nt1 5 s (V, f)) = _
    rw [nt1_kn hl (hs s List.mem_cons_self) h1]
    exact ntL_kn hl (fun z hz => hs z (List.mem_cons_of_mem _ hz)) h2
theorem ntC_kn {V : List Int} {f : Bool} (hl : V.length = 26) : ∀ {l : List (Int × List Int)}, (∀ y ∈ l, ∀ s ∈ y.2, s < 204) → (∀ y ∈ l, knA V y.2) → ntC l (V, f) = (V, f)
  | [], _, _ => rfl
  | y :: l, hs, h => by
    show ntC l (ntA y.2 (V, f)) = _
    rw [ntA_kn hl (hs y List.mem_cons_self) (h y List.mem_cons_self)]
    exact ntC_kn hl (fun z hz => hs z (List.mem_cons_of_mem _ hz)) (fun z hz => h z (List.mem_cons_of_mem _ hz))
theorem ntL_ex : ∀ {t : List Int} {z : List Int × Bool}, z.1.length = 26 → (∀ s ∈ t, s < 204) → (ntL t z).2 = false → z.2 = false ∧ exU z.1 (ntL t z).1 ∧ knL (ntL t z).1 t
  | [], z, _, _, e => ⟨e, exU.rf _, fun s hs => by cases hs⟩
  | s :: t, z, hl, hs, e => by
    have e' : (ntL t (nt1 1 s z)).2 = false := e
    obtain ⟨a1, a2, a3⟩ := ntL_ex (t := t) (by rw [nt1_len]; exact hl) (fun q hq => hs q (List.mem_cons_of_mem _ hq)) e'
    obtain ⟨b1, b2, b3⟩ := nt1_ex hl (hs s List.mem_cons_self) a1
    refine ⟨b1, b2.tr a2, fun q hq hc => ?_⟩
    rcases List.mem_cons.mp hq with rfl | hq
    · have := b3 hc
      show gZ (ntL t (nt1 1 q z)).1 _ = _
      rw [a2 _ (by omega) (by omega), this]
    · exact a3 q hq hc
theorem ntA_ex {t : List Int} {z : List Int × Bool} (hl : z.1.length = 26) (hs : ∀ s ∈ t, s < 204) (e : (ntA t z).2 = false) : z.2 = false ∧ exU z.1 (ntA t z).1 ∧ knA (ntA t z).1 t := by
  cases t with
  | nil => exact ⟨e, exU.rf _, fun s u h => by cases h⟩
  | cons s t =>
    have e' : (ntL t (nt1 5 s z)).2 = false := e
    obtain ⟨a1, a2, a3⟩ := ntL_ex (t := t) (by rw [nt1_len]; exact hl) (fun q hq => hs q (List.mem_cons_of_mem _ hq)) e'
    obtain ⟨b1, b2, b3⟩ := nt1_ex hl (hs s List.mem_cons_self) a1
    refine ⟨b1, b2.tr a2, fun s' u h => ?_⟩
    cases h
    refine ⟨fun hc => ?_, a3⟩
    have := b3 hc
    show gZ (ntL t (nt1 5 s z)).1 _ = _
    rw [a2 _ (by omega) (by omega), this]
theorem ntC_ex : ∀ {l : List (Int × List Int)} {z : List Int × Bool}, z.1.length = 26 → (∀ y ∈ l, ∀ s ∈ y.2, s < 204) → (ntC l z).2 = false → z.2 = false ∧ exU z.1 (ntC l z).1 ∧ (ntC l z).1.length = 26 ∧ ∀ y ∈ l, knA (ntC l z).1 y.2
  | [], z, hl, _, e => ⟨e, exU.rf _, hl, fun s hs => by cases hs⟩
  | y :: l, z, hl, hs, e => by
    have e' : (ntC l (ntA y.2 z)).2 = false := e
    obtain ⟨a1, a2, a4, a3⟩ := ntC_ex (l := l) (by rw [ntA_len]; exact hl) (fun q hq => hs q (List.mem_cons_of_mem _ hq)) e'
    obtain ⟨b1, b2, b3⟩ := ntA_ex hl (hs y List.mem_cons_self) a1
    refine ⟨b1, b2.tr a2, a4, fun q hq => ?_⟩
    rcases List.mem_cons.mp hq with rfl | hq
    · exact b3.ex a2
    · exact a3 q hq
theorem nt_uqs {U : List Int} (hU : U.length = 26) : ∀ (l q : List (Int × List Int)), (∀ y ∈ q, ∀ s ∈ y.2, s < 204) → (∀ y ∈ l, ∀ s ∈ y.2, s < 204) → SM (ntC (uqs q l) (U, false)) (ntC l (ntC q (U, false)))
  | [], q, _, _ => ⟨rfl, fun _ => rfl⟩
  | x :: l, q, hq, hl => by
    have hl' : ∀ y ∈ l, ∀ s ∈ y.2, s < 204 := fun y hy => hl y (List.mem_cons_of_mem _ hy)
    show SM (ntC (if x ∈ q then uqs q l else uqs (q ++ [x]) l) (U, false)) (ntC l (ntA x.2 (ntC q (U, false))))
    split
    · next hx =>
      have ih := nt_uqs hU l q hq hl'
      cases hz : (ntC q (U, false)).2 with
      | true =>
        have e1 := ntC_t (l := l) hz
        have e2 := ntC_t (l := l) (ntA_t (t := x.2) hz)
        refine ⟨ih.1.trans (e1.trans e2.symm), fun z => ?_⟩
        rw [ih.1, e1] at z
        cases z
      | false =>
        obtain ⟨_, _, k2, k3⟩ := ntC_ex (l := q) (z := (U, false)) hU hq hz
        have e : ntA x.2 (ntC q (U, false)) = ntC q (U, false) := by
          have := ntA_kn (f := (ntC q (U, false)).2) k2 (hq x hx) (k3 x hx)
          exact this
        rw [e]
        exact ih
    · have ih := nt_uqs hU l (q ++ [x]) (fun y hy => by
        rcases List.mem_append.mp hy with hy | hy
        · exact hq y hy
        · rw [List.mem_singleton] at hy
          rw [hy]
          exact hl x List.mem_cons_self) hl'
      rw [ntC_app] at ih
      exact ih
theorem ntL_ren {f : Int → Int} (hf : ∀ v, v < 99 → f v < 100) : ∀ (t : List Int) (z : List Int × Bool), ntL (ren f t) z = ntL t z
  | [], _ => rfl
  | s :: t, z => by
    show ntL (ren f t) (nt1 1 (if s < 99 then f s else s) z) = ntL t (nt1 1 s z)
    rw [ntL_ren hf t]
    by_cases h : s < 99
    · rw [if_pos h]
      have := hf s h
      unfold nt1
      rw [if_neg (by omega), if_neg (by omega)]
    · rw [if_neg h]
theorem ntA_ren {f : Int → Int} (hf : ∀ v, v < 99 → f v < 100) (t : List Int) (z : List Int × Bool) : ntA (ren f t) z = ntA t z := by
  cases t with
  | nil => rfl
  | cons s t =>
    show ntL (ren f t) (nt1 5 (if s < 99 then f s else s) z) = ntL t (nt1 5 s z)
    rw [ntL_ren hf t]
    by_cases h : s < 99
    · rw [if_pos h]
      have := hf s h
      unfold nt1
      rw [if_neg (by omega), if_neg (by omega)]
    · rw [if_neg h]
theorem ntC_ren {f : Int → Int} (hf : ∀ v, v < 99 → f v < 100) : ∀ (l : List (Int × List Int)) (z : List Int × Bool), ntC (l.map (litR f)) z = ntC l z
  | [], _ => rfl
  | y :: l, z => by
    show ntC (l.map (litR f)) (ntA (ren f y.2) z) = ntC l (ntA y.2 z)
    rw [ntA_ren hf, ntC_ren hf l]
theorem ntC_rnD {C : List (Int × List Int)} (h : (flt C).length ≤ 40) (z : List Int × Bool) : ntC (rnD C) z = ntC C z := by
  unfold rnD
  refine ntC_ren (fun v hv => ?_) C z
  have h1 : (fvs [] (flt C)).idxOf v ≤ (fvs [] (flt C)).length := List.idxOf_le_length
  have h2 := fvs_len (flt C) []
  simp only [List.length_nil] at h2
  omega
section US
variable {w : Nat → xC} {N a u : Nat} {S E B : List Int} {c l o : Int} {C : List (Int × List Int)}
theorem fo.upO {b : Nat} {x : xC} (hf : fo w a S E B c l o) (h : b < a ∨ a + 3 < b) : fo (uH w b x) a S E B c l o := by
  obtain ⟨h1, h2, h3, h4⟩ := hf
  exact ⟨by rw [uH_ne (by omega)]; exact h1, by rw [uH_ne (by omega)]; exact h2, by rw [uH_ne (by omega)]; exact h3, by rw [uH_ne (by omega)]; exact h4⟩
def lv38 (lv : xL) (a u k rt at_ : Int) : Prop := c1 lv ∧ x_lk lv 0 = some (.ref (a.toNat + 3)) ∧ x_lk lv 1 = some (.ref (u.toNat + 3)) ∧ x_lk lv 2 = some (.int (iZ k)) ∧ x_lk lv 3 = some (.int (iZ rt)) ∧ x_lk lv 4 = some (.int (iZ at_))
set_option maxHeartbeats 1000000 in
/-- one sign is entered -/
theorem S38 (d : Nat) (hf : fo w a S E B c l o) (hN : fN N a S E B) (hu : u < a ∨ a + 3 < u) (hun : u < N) (k rt at_ en s h : Int) (k0 : 0 ≤ k) (k1 : k < E.length) (e1 : gZ E k = en) (a0 : 0 ≤ at_) (a1 : at_ < en) (a2 : at_ < S.length) (en9 : en < 10000) (r0 : 0 ≤ rt) (r9 : rt < 10000) (es : gZ S at_ = vc s) (hs : sgV s) (hh : (at_ = rt ∧ h = 5) ∨ (at_ ≠ rt ∧ h = 1)) (V : List Int) (hV : UOK V) (lv : xL) (hc : c1 lv) (l0 : x_lk lv 0 = some (.ref (a + 3))) (l1 : x_lk lv 1 = some (.ref (u + 3))) (l2 : x_lk lv 2 = some (.int (iZ k))) (l3 : x_lk lv 3 = some (.int (iZ rt))) (l4 : x_lk lv 4 = some (.int (iZ at_))) :
    ((nt1 h s (V, false)).2 = false → ∃ lv', c1 lv' ∧ x_lk lv' 0 = some (.ref (a + 3)) ∧ x_lk lv' 1 = some (.ref (u + 3)) ∧ x_lk lv' 2 = some (.int (iZ k)) ∧ x_lk lv' 3 = some (.int (iZ rt)) ∧ x_lk lv' 4 = some (.int (iZ (at_ + 1))) ∧ ∀ res, Gx q_k38 (d + 1) 19 (lv', [], hp (uH w u (cI 0 (nt1 h s (V, false)).1)) N) res → Gx q_k38 (d + 1) 19 (lv, [], hp (uH w u (cI 0 V)) N) res) ∧
    ((nt1 h s (V, false)).2 = true → Gx q_k38 (d + 1) 19 (lv, [], hp (uH w u (cI 0 V)) N) (some (.int (iZ 0)), hp (uH w u (cI 0 V)) N)) := by
  have vr := vc_rng hs
  have X4 := m4 d (uH w u (cI 0 V)) N (vc s) vr.1 (by omega)
  have X5 := m5 d (uH w u (cI 0 V)) N (vc s) vr.1 (by omega)
  obtain ⟨v1, v2⟩ := hV
  obtain ⟨fa, fs, fe, fg⟩ := hf.upO (x := cI 0 V) hu
  have hn := hN.1
  have ls := hN.2.1
  have le := hN.2.2.1
  obtain ⟨y, hy⟩ : ∃ y, y = vc s := ⟨_, rfl⟩
  obtain ⟨nm, hnm⟩ : ∃ nm, nm = vc s / 4 := ⟨_, rfl⟩
  obtain ⟨tr, htr⟩ : ∃ tr, tr = vc s % 4 := ⟨_, rfl⟩
  rw [← hnm, ← hy] at X4
  rw [← htr, ← hy] at X5
  rw [← hy] at es
  have n0 : 0 ≤ nm := by omega
  have n9 : nm < 200 := by omega
  have t0 : 0 ≤ tr := by omega
  have t3 : tr < 4 := by omega
  have y0 : 0 ≤ y := by omega
  have y9 : y < 520 := by omega
  have b1 : ¬ en ≤ at_ := by omega
  have C5 := c1_st (i := 5) (v := .int (iZ y)) rfl hc
  have C6 := c1_st (i := 6) (v := .int (iZ nm)) rfl C5
  obtain ⟨us, hus⟩ : ∃ us : Int, us = 1 + tr + (h - 1) := ⟨_, rfl⟩
  have C7 := c1_st (i := 7) (v := .int (iZ us)) rfl C6
  have j0 : x_lk ((7, .int (iZ us)) :: List.filter (x_keep 7) ((6, .int (iZ nm)) :: List.filter (x_keep 6) ((5, .int (iZ y)) :: lv.filter (x_keep 5)))) 0 = some (.ref (a + 3)) := by rw [lk_s C6, lk_s C5, lk_s hc]; exact l0
  have j1 : x_lk ((7, .int (iZ us)) :: List.filter (x_keep 7) ((6, .int (iZ nm)) :: List.filter (x_keep 6) ((5, .int (iZ y)) :: lv.filter (x_keep 5)))) 1 = some (.ref (u + 3)) := by rw [lk_s C6, lk_s C5, lk_s hc]; exact l1
  have j2 : x_lk ((7, .int (iZ us)) :: List.filter (x_keep 7) ((6, .int (iZ nm)) :: List.filter (x_keep 6) ((5, .int (iZ y)) :: lv.filter (x_keep 5)))) 2 = some (.int (iZ k)) := by rw [lk_s C6, lk_s C5, lk_s hc]; exact l2
  have j3 : x_lk ((7, .int (iZ us)) :: List.filter (x_keep 7) ((6, .int (iZ nm)) :: List.filter (x_keep 6) ((5, .int (iZ y)) :: lv.filter (x_keep 5)))) 3 = some (.int (iZ rt)) := by rw [lk_s C6, lk_s C5, lk_s hc]; exact l3
  have j4 : x_lk ((7, .int (iZ us)) :: List.filter (x_keep 7) ((6, .int (iZ nm)) :: List.filter (x_keep 6) ((5, .int (iZ y)) :: lv.filter (x_keep 5)))) 4 = some (.int (iZ at_)) := by rw [lk_s C6, lk_s C5, lk_s hc]; exact l4
  have j6 : x_lk ((7, .int (iZ us)) :: List.filter (x_keep 7) ((6, .int (iZ nm)) :: List.filter (x_keep 6) ((5, .int (iZ y)) :: lv.filter (x_keep 5)))) 6 = some (.int (iZ nm)) := by rw [lk_s C6, lk_s C5]; rfl
  have j7 : x_lk ((7, .int (iZ us)) :: List.filter (x_keep 7) ((6, .int (iZ nm)) :: List.filter (x_keep 6) ((5, .int (iZ y)) :: lv.filter (x_keep 5)))) 7 = some (.int (iZ us)) := by rw [lk_s C6]; rfl
  have g67 : ∀ res, Gx q_k38 (d + 1) 67 ((7, .int (iZ us)) :: List.filter (x_keep 7) ((6, .int (iZ nm)) :: List.filter (x_keep 6) ((5, .int (iZ y)) :: lv.filter (x_keep 5))), [], hp (uH w u (cI 0 V)) N) res → Gx q_k38 (d + 1) 19 (lv, [], hp (uH w u (cI 0 V)) N) res := fun res hres => by
    refine Gx.run 80 (X4.and X5) (fun X mm => ?_) hres
    obtain ⟨mm1, mm2⟩ := mm
    obtain ⟨w1, hw1⟩ : ∃ w1, w1 = uH w u (cI 0 V) := ⟨_, rfl⟩
    rw [← hw1] at mm1 mm2 fa fs fe ⊢
    rcases hh with ⟨q1, q2⟩ | ⟨q1, q2⟩
    · have hus' : us = 1 + tr + 4 := by omega
      rw [hus']
      subst q1
      simp (disch := first | (refine c1_id ?_; assumption) | (refine c1_st rfl ?_; repeat (first | assumption | refine c1_st rfl ?_)) | omega) [nx_l, nx_r, nx_n, x_st, x_push, x_bin, x_div, x_un, x_dup, x_pop, x_dup2, x_goto, x_ifeq, x_ifne, x_iflt, x_ifge, x_ifgt, x_ifle, x_iceq, x_icne, x_iclt, x_icge, x_icgt, x_icle, x_ifnull, x_ifnonnull, x_ldi, x_lda, x_sti, x_sta, x_iinc, x_gf, x_pf, x_ald, x_ast, x_aln, x_len, x_cl_, x_cv, x_cs, x_rc, x_r0, x_isT, x_oi, x_rv, x_ri, x_ra, Value.category, t38_0, t38_1, t38_2, t38_3, t38_4, t38_7, t38_10, t38_11, t38_12, t38_15, t38_16, t38_17, t38_19, t38_21, t38_22, t38_25, t38_26, t38_27, t38_30, t38_31, t38_34, t38_36, t38_37, t38_39, t38_41, t38_44, t38_46, t38_47, t38_49, t38_52, t38_53, t38_55, t38_56, t38_59, t38_60, t38_63, t38_64, t38_65, t38_67, t38_69, t38_71, t38_74, t38_75, t38_77, t38_78, t38_81, t38_82, t38_84, t38_85, t38_87, t38_90, t38_91, t38_92, t38_94, t38_96, t38_99, t38_100, t38_102, t38_104, t38_105, t38_108, t38_111, t38_114, t38_117, t38_118, lk_s, hp_get, hp_set, uH_at, uH_ne, uH_upd, uH_swap, iZ_add, iZ_sub, iZ_mul, iZ_neg, iZ_lt, iZ_le, iZ_eq, iZ_div, iZ_of, ix_Z, gZ_map, gZ_mapI, gZ_map', le_0, le_s, sZ_map, sZ_len, bZ_0, bZ_inj, bZ_t, bZ_f, nr_i, nr_0, nr_1, nr_b, ft_i, ft_b, ft_0, ft_1, zl_0, zl_1, zl_4, zl_26, l0, l1, l2, l3, l4, fa, fs, fe, e1, es, b1, mm1, mm2, -List.filter_filter, -List.getElem?_map, -List.getD_eq_getElem?_getD]
    · have hus' : us = 1 + tr + 0 := by omega
      rw [hus']
      simp (disch := first | (refine c1_id ?_; assumption) | (refine c1_st rfl ?_; repeat (first | assumption | refine c1_st rfl ?_)) | omega) [nx_l, nx_r, nx_n, x_st, x_push, x_bin, x_div, x_un, x_dup, x_pop, x_dup2, x_goto, x_ifeq, x_ifne, x_iflt, x_ifge, x_ifgt, x_ifle, x_iceq, x_icne, x_iclt, x_icge, x_icgt, x_icle, x_ifnull, x_ifnonnull, x_ldi, x_lda, x_sti, x_sta, x_iinc, x_gf, x_pf, x_ald, x_ast, x_aln, x_len, x_cl_, x_cv, x_cs, x_rc, x_r0, x_isT, x_oi, x_rv, x_ri, x_ra, Value.category, t38_0, t38_1, t38_2, t38_3, t38_4, t38_7, t38_10, t38_11, t38_12, t38_15, t38_16, t38_17, t38_19, t38_21, t38_22, t38_25, t38_26, t38_27, t38_30, t38_31, t38_34, t38_36, t38_37, t38_39, t38_41, t38_44, t38_46, t38_47, t38_49, t38_52, t38_53, t38_55, t38_56, t38_59, t38_60, t38_63, t38_64, t38_65, t38_67, t38_69, t38_71, t38_74, t38_75, t38_77, t38_78, t38_81, t38_82, t38_84, t38_85, t38_87, t38_90, t38_91, t38_92, t38_94, t38_96, t38_99, t38_100, t38_102, t38_104, t38_105, t38_108, t38_111, t38_114, t38_117, t38_118, lk_s, hp_get, hp_set, uH_at, uH_ne, uH_upd, uH_swap, iZ_add, iZ_sub, iZ_mul, iZ_neg, iZ_lt, iZ_le, iZ_eq, iZ_div, iZ_of, ix_Z, gZ_map, gZ_mapI, gZ_map', le_0, le_s, sZ_map, sZ_len, bZ_0, bZ_inj, bZ_t, bZ_f, nr_i, nr_0, nr_1, nr_b, ft_i, ft_b, ft_0, ft_1, zl_0, zl_1, zl_4, zl_26, l0, l1, l2, l3, l4, fa, fs, fe, e1, es, b1, q1, mm1, mm2, -List.filter_filter, -List.getElem?_map, -List.getD_eq_getElem?_getD]
  generalize ((7, .int (iZ us)) :: List.filter (x_keep 7) ((6, .int (iZ nm)) :: List.filter (x_keep 6) ((5, .int (iZ y)) :: lv.filter (x_keep 5))) : xL) = lv7 at C7 j0 j1 j2 j3 j4 j6 j7 g67
  have C4 := c1_st (i := 4) (v := .int (iZ (at_ + 1))) rfl C7
  have i0 : x_lk ((4, .int (iZ (at_ + 1))) :: lv7.filter (x_keep 4)) 0 = some (.ref (a + 3)) := by rw [lk_s C7]; exact j0
  have i1 : x_lk ((4, .int (iZ (at_ + 1))) :: lv7.filter (x_keep 4)) 1 = some (.ref (u + 3)) := by rw [lk_s C7]; exact j1
  have i2 : x_lk ((4, .int (iZ (at_ + 1))) :: lv7.filter (x_keep 4)) 2 = some (.int (iZ k)) := by rw [lk_s C7]; exact j2
  have i3 : x_lk ((4, .int (iZ (at_ + 1))) :: lv7.filter (x_keep 4)) 3 = some (.int (iZ rt)) := by rw [lk_s C7]; exact j3
  have i4 : x_lk ((4, .int (iZ (at_ + 1))) :: lv7.filter (x_keep 4)) 4 = some (.int (iZ (at_ + 1))) := by rw [lk_s C7]; rfl
  have g19 : ∀ (V' : List Int) (res : Option Value × xH), Gx q_k38 (d + 1) 19 ((4, .int (iZ (at_ + 1))) :: lv7.filter (x_keep 4), [], hp (uH w u (cI 0 V')) N) res → Gx q_k38 (d + 1) 105 (lv7, [], hp (uH w u (cI 0 V')) N) res := fun V' res hres => by
    refine Gx.run 10 Cs.tt (fun X _ => ?_) (Gx.run (pc := 108) (z := ((4, .int (iZ (at_ + 1))) :: lv7.filter (x_keep 4), [], hp (uH w u (cI 0 V')) N)) 5 Cs.tt (fun X _ => ?_) hres)
    · simp (disch := first | (refine c1_id ?_; assumption) | (refine c1_st rfl ?_; repeat (first | assumption | refine c1_st rfl ?_)) | omega) [nx_l, nx_r, nx_n, x_st, x_push, x_bin, x_div, x_un, x_dup, x_pop, x_dup2, x_goto, x_ifeq, x_ifne, x_iflt, x_ifge, x_ifgt, x_ifle, x_iceq, x_icne, x_iclt, x_icge, x_icgt, x_icle, x_ifnull, x_ifnonnull, x_ldi, x_lda, x_sti, x_sta, x_iinc, x_gf, x_pf, x_ald, x_ast, x_aln, x_len, x_cl_, x_cv, x_cs, x_rc, x_r0, x_isT, x_oi, x_rv, x_ri, x_ra, Value.category, t38_0, t38_1, t38_2, t38_3, t38_4, t38_7, t38_10, t38_11, t38_12, t38_15, t38_16, t38_17, t38_19, t38_21, t38_22, t38_25, t38_26, t38_27, t38_30, t38_31, t38_34, t38_36, t38_37, t38_39, t38_41, t38_44, t38_46, t38_47, t38_49, t38_52, t38_53, t38_55, t38_56, t38_59, t38_60, t38_63, t38_64, t38_65, t38_67, t38_69, t38_71, t38_74, t38_75, t38_77, t38_78, t38_81, t38_82, t38_84, t38_85, t38_87, t38_90, t38_91, t38_92, t38_94, t38_96, t38_99, t38_100, t38_102, t38_104, t38_105, t38_108, t38_111, t38_114, t38_117, t38_118, lk_s, hp_get, hp_set, uH_at, uH_ne, uH_upd, uH_swap, iZ_add, iZ_sub, iZ_mul, iZ_neg, iZ_lt, iZ_le, iZ_eq, iZ_div, iZ_of, ix_Z, gZ_map, gZ_mapI, gZ_map', le_0, le_s, sZ_map, sZ_len, bZ_0, bZ_inj, bZ_t, bZ_f, nr_i, nr_0, nr_1, nr_b, ft_i, ft_b, ft_0, ft_1, zl_0, zl_1, zl_4, zl_26, j4, -List.filter_filter, -List.getElem?_map, -List.getD_eq_getElem?_getD]
    · simp (disch := first | (refine c1_id ?_; assumption) | (refine c1_st rfl ?_; repeat (first | assumption | refine c1_st rfl ?_)) | omega) [nx_l, nx_r, nx_n, x_st, x_push, x_bin, x_div, x_un, x_dup, x_pop, x_dup2, x_goto, x_ifeq, x_ifne, x_iflt, x_ifge, x_ifgt, x_ifle, x_iceq, x_icne, x_iclt, x_icge, x_icgt, x_icle, x_ifnull, x_ifnonnull, x_ldi, x_lda, x_sti, x_sta, x_iinc, x_gf, x_pf, x_ald, x_ast, x_aln, x_len, x_cl_, x_cv, x_cs, x_rc, x_r0, x_isT, x_oi, x_rv, x_ri, x_ra, Value.category, t38_0, t38_1, t38_2, t38_3, t38_4, t38_7, t38_10, t38_11, t38_12, t38_15, t38_16, t38_17, t38_19, t38_21, t38_22, t38_25, t38_26, t38_27, t38_30, t38_31, t38_34, t38_36, t38_37, t38_39, t38_41, t38_44, t38_46, t38_47, t38_49, t38_52, t38_53, t38_55, t38_56, t38_59, t38_60, t38_63, t38_64, t38_65, t38_67, t38_69, t38_71, t38_74, t38_75, t38_77, t38_78, t38_81, t38_82, t38_84, t38_85, t38_87, t38_90, t38_91, t38_92, t38_94, t38_96, t38_99, t38_100, t38_102, t38_104, t38_105, t38_108, t38_111, t38_114, t38_117, t38_118, lk_s, hp_get, hp_set, uH_at, uH_ne, uH_upd, uH_swap, iZ_add, iZ_sub, iZ_mul, iZ_neg, iZ_lt, iZ_le, iZ_eq, iZ_div, iZ_of, ix_Z, gZ_map, gZ_mapI, gZ_map', le_0, le_s, sZ_map, sZ_len, bZ_0, bZ_inj, bZ_t, bZ_f, nr_i, nr_0, nr_1, nr_b, ft_i, ft_b, ft_0, ft_1, zl_0, zl_1, zl_4, zl_26, -List.filter_filter, -List.getElem?_map, -List.getD_eq_getElem?_getD]
  have hcell : uH w u (cI 0 V) u = cI 0 V := uH_at _ _ _
  by_cases h100 : 100 ≤ s
  · have ev : vc s = s - 100 := by
      unfold vc
      rw [if_neg (by omega), if_neg (by omega)]
    have sb := hs.2.1
    have ea : (ar s : Int) = (s - 100) % 4 := by
      unfold ar
      rw [if_neg (by omega), if_neg (by omega)]
      omega
    have en1 : nm = (s - 100) / 4 := by rw [hnm, ev]
    have eus : us = (ar s : Int) + h := by rw [hus, htr, ev, ea]; omega
    have hnt : nt1 h s (V, false) = (sZ V nm us, decide (gZ V nm ≠ 0) && decide (gZ V nm ≠ us)) := by
      unfold nt1 us1
      rw [if_pos h100, ← en1, ← eus]
      rfl
    rw [hnt]
    have n26 : ¬ 26 ≤ nm := by omega
    have n26' : nm < 26 := by omega
    have vv := v2 nm
    have us9 : us < 20 := by omega
    have us0 : 0 ≤ us := by omega
    have g92 : ∀ res, Gx q_k38 (d + 1) 105 (lv7, [], hp (uH w u (cI 0 (sZ V nm us))) N) res → Gx q_k38 (d + 1) 92 (lv7, [], hp (uH w u (cI 0 V)) N) res := fun res hres => by
      refine Gx.run 20 Cs.tt (fun X _ => ?_) hres
      simp (disch := first | (refine c1_id ?_; assumption) | (refine c1_st rfl ?_; repeat (first | assumption | refine c1_st rfl ?_)) | omega) [nx_l, nx_r, nx_n, x_st, x_push, x_bin, x_div, x_un, x_dup, x_pop, x_dup2, x_goto, x_ifeq, x_ifne, x_iflt, x_ifge, x_ifgt, x_ifle, x_iceq, x_icne, x_iclt, x_icge, x_icgt, x_icle, x_ifnull, x_ifnonnull, x_ldi, x_lda, x_sti, x_sta, x_iinc, x_gf, x_pf, x_ald, x_ast, x_aln, x_len, x_cl_, x_cv, x_cs, x_rc, x_r0, x_isT, x_oi, x_rv, x_ri, x_ra, Value.category, t38_0, t38_1, t38_2, t38_3, t38_4, t38_7, t38_10, t38_11, t38_12, t38_15, t38_16, t38_17, t38_19, t38_21, t38_22, t38_25, t38_26, t38_27, t38_30, t38_31, t38_34, t38_36, t38_37, t38_39, t38_41, t38_44, t38_46, t38_47, t38_49, t38_52, t38_53, t38_55, t38_56, t38_59, t38_60, t38_63, t38_64, t38_65, t38_67, t38_69, t38_71, t38_74, t38_75, t38_77, t38_78, t38_81, t38_82, t38_84, t38_85, t38_87, t38_90, t38_91, t38_92, t38_94, t38_96, t38_99, t38_100, t38_102, t38_104, t38_105, t38_108, t38_111, t38_114, t38_117, t38_118, lk_s, hp_get, hp_set, uH_at, uH_ne, uH_upd, uH_swap, iZ_add, iZ_sub, iZ_mul, iZ_neg, iZ_lt, iZ_le, iZ_eq, iZ_div, iZ_of, ix_Z, gZ_map, gZ_mapI, gZ_map', le_0, le_s, sZ_map, sZ_len, bZ_0, bZ_inj, bZ_t, bZ_f, nr_i, nr_0, nr_1, nr_b, ft_i, ft_b, ft_0, ft_1, zl_0, zl_1, zl_4, zl_26, j1, j6, j7, n26, n26', hcell, -List.filter_filter, -List.getElem?_map, -List.getD_eq_getElem?_getD]
    by_cases hz : gZ V nm = 0
    · refine ⟨fun _ => ⟨_, C4, i0, i1, i2, i3, i4, fun res hres => g67 _ (Gx.run 20 Cs.tt (fun X _ => ?_) (g92 _ (g19 _ _ hres)))⟩, fun z => ?_⟩
      · simp (disch := first | (refine c1_id ?_; assumption) | (refine c1_st rfl ?_; repeat (first | assumption | refine c1_st rfl ?_)) | omega) [nx_l, nx_r, nx_n, x_st, x_push, x_bin, x_div, x_un, x_dup, x_pop, x_dup2, x_goto, x_ifeq, x_ifne, x_iflt, x_ifge, x_ifgt, x_ifle, x_iceq, x_icne, x_iclt, x_icge, x_icgt, x_icle, x_ifnull, x_ifnonnull, x_ldi, x_lda, x_sti, x_sta, x_iinc, x_gf, x_pf, x_ald, x_ast, x_aln, x_len, x_cl_, x_cv, x_cs, x_rc, x_r0, x_isT, x_oi, x_rv, x_ri, x_ra, Value.category, t38_0, t38_1, t38_2, t38_3, t38_4, t38_7, t38_10, t38_11, t38_12, t38_15, t38_16, t38_17, t38_19, t38_21, t38_22, t38_25, t38_26, t38_27, t38_30, t38_31, t38_34, t38_36, t38_37, t38_39, t38_41, t38_44, t38_46, t38_47, t38_49, t38_52, t38_53, t38_55, t38_56, t38_59, t38_60, t38_63, t38_64, t38_65, t38_67, t38_69, t38_71, t38_74, t38_75, t38_77, t38_78, t38_81, t38_82, t38_84, t38_85, t38_87, t38_90, t38_91, t38_92, t38_94, t38_96, t38_99, t38_100, t38_102, t38_104, t38_105, t38_108, t38_111, t38_114, t38_117, t38_118, lk_s, hp_get, hp_set, uH_at, uH_ne, uH_upd, uH_swap, iZ_add, iZ_sub, iZ_mul, iZ_neg, iZ_lt, iZ_le, iZ_eq, iZ_div, iZ_of, ix_Z, gZ_map, gZ_mapI, gZ_map', le_0, le_s, sZ_map, sZ_len, bZ_0, bZ_inj, bZ_t, bZ_f, nr_i, nr_0, nr_1, nr_b, ft_i, ft_b, ft_0, ft_1, zl_0, zl_1, zl_4, zl_26, j1, j6, j7, n26, hcell, hz, -List.filter_filter, -List.getElem?_map, -List.getD_eq_getElem?_getD]
      · exfalso
        simp [hz] at z
    · by_cases hq : gZ V nm = us
      · refine ⟨fun _ => ⟨_, C4, i0, i1, i2, i3, i4, fun res hres => g67 _ (Gx.run 20 Cs.tt (fun X _ => ?_) (g92 _ (g19 _ _ hres)))⟩, fun z => ?_⟩
        · have hz2 : ¬ us = 0 := by omega
          simp (disch := first | (refine c1_id ?_; assumption) | (refine c1_st rfl ?_; repeat (first | assumption | refine c1_st rfl ?_)) | omega) [nx_l, nx_r, nx_n, x_st, x_push, x_bin, x_div, x_un, x_dup, x_pop, x_dup2, x_goto, x_ifeq, x_ifne, x_iflt, x_ifge, x_ifgt, x_ifle, x_iceq, x_icne, x_iclt, x_icge, x_icgt, x_icle, x_ifnull, x_ifnonnull, x_ldi, x_lda, x_sti, x_sta, x_iinc, x_gf, x_pf, x_ald, x_ast, x_aln, x_len, x_cl_, x_cv, x_cs, x_rc, x_r0, x_isT, x_oi, x_rv, x_ri, x_ra, Value.category, t38_0, t38_1, t38_2, t38_3, t38_4, t38_7, t38_10, t38_11, t38_12, t38_15, t38_16, t38_17, t38_19, t38_21, t38_22, t38_25, t38_26, t38_27, t38_30, t38_31, t38_34, t38_36, t38_37, t38_39, t38_41, t38_44, t38_46, t38_47, t38_49, t38_52, t38_53, t38_55, t38_56, t38_59, t38_60, t38_63, t38_64, t38_65, t38_67, t38_69, t38_71, t38_74, t38_75, t38_77, t38_78, t38_81, t38_82, t38_84, t38_85, t38_87, t38_90, t38_91, t38_92, t38_94, t38_96, t38_99, t38_100, t38_102, t38_104, t38_105, t38_108, t38_111, t38_114, t38_117, t38_118, lk_s, hp_get, hp_set, uH_at, uH_ne, uH_upd, uH_swap, iZ_add, iZ_sub, iZ_mul, iZ_neg, iZ_lt, iZ_le, iZ_eq, iZ_div, iZ_of, ix_Z, gZ_map, gZ_mapI, gZ_map', le_0, le_s, sZ_map, sZ_len, bZ_0, bZ_inj, bZ_t, bZ_f, nr_i, nr_0, nr_1, nr_b, ft_i, ft_b, ft_0, ft_1, zl_0, zl_1, zl_4, zl_26, j1, j6, j7, n26, hcell, hq, hz2, -List.filter_filter, -List.getElem?_map, -List.getD_eq_getElem?_getD]
        · exfalso
          simp [hq] at z
      · refine ⟨fun z => ?_, fun _ => g67 _ (Gx.fin 20 Cs.tt (fun X _ => ?_))⟩
        · exfalso
          simp [hz, hq] at z
        · simp (disch := first | (refine c1_id ?_; assumption) | (refine c1_st rfl ?_; repeat (first | assumption | refine c1_st rfl ?_)) | omega) [nx_l, nx_r, nx_n, x_st, x_push, x_bin, x_div, x_un, x_dup, x_pop, x_dup2, x_goto, x_ifeq, x_ifne, x_iflt, x_ifge, x_ifgt, x_ifle, x_iceq, x_icne, x_iclt, x_icge, x_icgt, x_icle, x_ifnull, x_ifnonnull, x_ldi, x_lda, x_sti, x_sta, x_iinc, x_gf, x_pf, x_ald, x_ast, x_aln, x_len, x_cl_, x_cv, x_cs, x_rc, x_r0, x_isT, x_oi, x_rv, x_ri, x_ra, Value.category, t38_0, t38_1, t38_2, t38_3, t38_4, t38_7, t38_10, t38_11, t38_12, t38_15, t38_16, t38_17, t38_19, t38_21, t38_22, t38_25, t38_26, t38_27, t38_30, t38_31, t38_34, t38_36, t38_37, t38_39, t38_41, t38_44, t38_46, t38_47, t38_49, t38_52, t38_53, t38_55, t38_56, t38_59, t38_60, t38_63, t38_64, t38_65, t38_67, t38_69, t38_71, t38_74, t38_75, t38_77, t38_78, t38_81, t38_82, t38_84, t38_85, t38_87, t38_90, t38_91, t38_92, t38_94, t38_96, t38_99, t38_100, t38_102, t38_104, t38_105, t38_108, t38_111, t38_114, t38_117, t38_118, lk_s, hp_get, hp_set, uH_at, uH_ne, uH_upd, uH_swap, iZ_add, iZ_sub, iZ_mul, iZ_neg, iZ_lt, iZ_le, iZ_eq, iZ_div, iZ_of, ix_Z, gZ_map, gZ_mapI, gZ_map', le_0, le_s, sZ_map, sZ_len, bZ_0, bZ_inj, bZ_t, bZ_f, nr_i, nr_0, nr_1, nr_b, ft_i, ft_b, ft_0, ft_1, zl_0, zl_1, zl_4, zl_26, j1, j6, j7, n26, hcell, hz, hq, -List.filter_filter, -List.getElem?_map, -List.getD_eq_getElem?_getD]
  · have hnt : nt1 h s (V, false) = (V, false) := by
      unfold nt1
      rw [if_neg h100]
    rw [hnt]
    have n26 : 26 ≤ nm := by
      rw [hnm]
      unfold vc
      obtain ⟨z1, z2, z3⟩ := hs
      split
      · omega
      · split
        · omega
        · omega
    refine ⟨fun _ => ⟨_, C4, i0, i1, i2, i3, i4, fun res hres => g67 _ (Gx.run 20 Cs.tt (fun X _ => ?_) (g19 _ _ hres))⟩, fun z => by cases z⟩
    simp (disch := first | (refine c1_id ?_; assumption) | (refine c1_st rfl ?_; repeat (first | assumption | refine c1_st rfl ?_)) | omega) [nx_l, nx_r, nx_n, x_st, x_push, x_bin, x_div, x_un, x_dup, x_pop, x_dup2, x_goto, x_ifeq, x_ifne, x_iflt, x_ifge, x_ifgt, x_ifle, x_iceq, x_icne, x_iclt, x_icge, x_icgt, x_icle, x_ifnull, x_ifnonnull, x_ldi, x_lda, x_sti, x_sta, x_iinc, x_gf, x_pf, x_ald, x_ast, x_aln, x_len, x_cl_, x_cv, x_cs, x_rc, x_r0, x_isT, x_oi, x_rv, x_ri, x_ra, Value.category, t38_0, t38_1, t38_2, t38_3, t38_4, t38_7, t38_10, t38_11, t38_12, t38_15, t38_16, t38_17, t38_19, t38_21, t38_22, t38_25, t38_26, t38_27, t38_30, t38_31, t38_34, t38_36, t38_37, t38_39, t38_41, t38_44, t38_46, t38_47, t38_49, t38_52, t38_53, t38_55, t38_56, t38_59, t38_60, t38_63, t38_64, t38_65, t38_67, t38_69, t38_71, t38_74, t38_75, t38_77, t38_78, t38_81, t38_82, t38_84, t38_85, t38_87, t38_90, t38_91, t38_92, t38_94, t38_96, t38_99, t38_100, t38_102, t38_104, t38_105, t38_108, t38_111, t38_114, t38_117, t38_118, lk_s, hp_get, hp_set, uH_at, uH_ne, uH_upd, uH_swap, iZ_add, iZ_sub, iZ_mul, iZ_neg, iZ_lt, iZ_le, iZ_eq, iZ_div, iZ_of, ix_Z, gZ_map, gZ_mapI, gZ_map', le_0, le_s, sZ_map, sZ_len, bZ_0, bZ_inj, bZ_t, bZ_f, nr_i, nr_0, nr_1, nr_b, ft_i, ft_b, ft_0, ft_1, zl_0, zl_1, zl_4, zl_26, j1, j6, j7, n26, -List.filter_filter, -List.getElem?_map, -List.getD_eq_getElem?_getD]
end US
