/-! the reference: its state; a clause is given -/
theorem f93_0 : x_fetch q_k93 0 = x_lda 1 0 := rfl
theorem t93_0 (C : xF) (s n : Nat) (z : xS) : x_to q_k93 C s (n + 1) 0 z = x_nx q_k93 C s n ((x_lda 1 0) C z) := x_to_at f93_0 C s n z
theorem f93_1 : x_fetch q_k93 1 = x_ldi 2 1 := rfl
theorem t93_1 (C : xF) (s n : Nat) (z : xS) : x_to q_k93 C s (n + 1) 1 z = x_nx q_k93 C s n ((x_ldi 2 1) C z) := x_to_at f93_1 C s n z
theorem f93_2 : x_fetch q_k93 2 = x_pf 5 8 0 (.int) := rfl
theorem t93_2 (C : xF) (s n : Nat) (z : xS) : x_to q_k93 C s (n + 1) 2 z = x_nx q_k93 C s n ((x_pf 5 8 0 (.int)) C z) := x_to_at f93_2 C s n z
theorem f93_5 : x_fetch q_k93 5 = x_lda 6 0 := rfl
theorem t93_5 (C : xF) (s n : Nat) (z : xS) : x_to q_k93 C s (n + 1) 5 z = x_nx q_k93 C s n ((x_lda 6 0) C z) := x_to_at f93_5 C s n z
theorem f93_6 : x_fetch q_k93 6 = x_ldi 7 2 := rfl
theorem t93_6 (C : xF) (s n : Nat) (z : xS) : x_to q_k93 C s (n + 1) 6 z = x_nx q_k93 C s n ((x_ldi 7 2) C z) := x_to_at f93_6 C s n z
theorem f93_7 : x_fetch q_k93 7 = x_pf 10 8 1 (.int) := rfl
theorem t93_7 (C : xF) (s n : Nat) (z : xS) : x_to q_k93 C s (n + 1) 7 z = x_nx q_k93 C s n ((x_pf 10 8 1 (.int)) C z) := x_to_at f93_7 C s n z
theorem f93_10 : x_fetch q_k93 10 = x_st (x_push 11 (.int (0))) := rfl
theorem t93_10 (C : xF) (s n : Nat) (z : xS) : x_to q_k93 C s (n + 1) 10 z = x_nx q_k93 C s n ((x_st (x_push 11 (.int (0)))) C z) := x_to_at f93_10 C s n z
theorem f93_11 : x_fetch q_k93 11 = x_ri (.int) := rfl
theorem t93_11 (C : xF) (s n : Nat) (z : xS) : x_to q_k93 C s (n + 1) 11 z = x_nx q_k93 C s n ((x_ri (.int)) C z) := x_to_at f93_11 C s n z
theorem f108_0 : x_fetch q_k108 0 = x_lda 1 0 := rfl
theorem t108_0 (C : xF) (s n : Nat) (z : xS) : x_to q_k108 C s (n + 1) 0 z = x_nx q_k108 C s n ((x_lda 1 0) C z) := x_to_at f108_0 C s n z
theorem f108_1 : x_fetch q_k108 1 = x_st (x_push 2 (.int (0))) := rfl
theorem t108_1 (C : xF) (s n : Nat) (z : xS) : x_to q_k108 C s (n + 1) 1 z = x_nx q_k108 C s n ((x_st (x_push 2 (.int (0)))) C z) := x_to_at f108_1 C s n z
theorem f108_2 : x_fetch q_k108 2 = x_pf 5 8 0 (.int) := rfl
theorem t108_2 (C : xF) (s n : Nat) (z : xS) : x_to q_k108 C s (n + 1) 2 z = x_nx q_k108 C s n ((x_pf 5 8 0 (.int)) C z) := x_to_at f108_2 C s n z
theorem f108_5 : x_fetch q_k108 5 = x_lda 6 0 := rfl
theorem t108_5 (C : xF) (s n : Nat) (z : xS) : x_to q_k108 C s (n + 1) 5 z = x_nx q_k108 C s n ((x_lda 6 0) C z) := x_to_at f108_5 C s n z
theorem f108_6 : x_fetch q_k108 6 = x_st (x_push 7 (.int (0))) := rfl
theorem t108_6 (C : xF) (s n : Nat) (z : xS) : x_to q_k108 C s (n + 1) 6 z = x_nx q_k108 C s n ((x_st (x_push 7 (.int (0)))) C z) := x_to_at f108_6 C s n z
theorem f108_7 : x_fetch q_k108 7 = x_pf 10 8 1 (.int) := rfl
theorem t108_7 (C : xF) (s n : Nat) (z : xS) : x_to q_k108 C s (n + 1) 7 z = x_nx q_k108 C s n ((x_pf 10 8 1 (.int)) C z) := x_to_at f108_7 C s n z
theorem f108_10 : x_fetch q_k108 10 = x_lda 11 0 := rfl
theorem t108_10 (C : xF) (s n : Nat) (z : xS) : x_to q_k108 C s (n + 1) 10 z = x_nx q_k108 C s n ((x_lda 11 0) C z) := x_to_at f108_10 C s n z
theorem f108_11 : x_fetch q_k108 11 = x_cv 14 105 1 8 := rfl
theorem t108_11 (C : xF) (s n : Nat) (z : xS) : x_to q_k108 C s (n + 1) 11 z = x_nx q_k108 C s n ((x_cv 14 105 1 8) C z) := x_to_at f108_11 C s n z
theorem f108_14 : x_fetch q_k108 14 = x_sti 15 1 := rfl
theorem t108_14 (C : xF) (s n : Nat) (z : xS) : x_to q_k108 C s (n + 1) 14 z = x_nx q_k108 C s n ((x_sti 15 1) C z) := x_to_at f108_14 C s n z
theorem f108_15 : x_fetch q_k108 15 = x_lda 16 0 := rfl
theorem t108_15 (C : xF) (s n : Nat) (z : xS) : x_to q_k108 C s (n + 1) 15 z = x_nx q_k108 C s n ((x_lda 16 0) C z) := x_to_at f108_15 C s n z
theorem f108_16 : x_fetch q_k108 16 = x_st (x_push 17 (.int (0))) := rfl
theorem t108_16 (C : xF) (s n : Nat) (z : xS) : x_to q_k108 C s (n + 1) 16 z = x_nx q_k108 C s n ((x_st (x_push 17 (.int (0)))) C z) := x_to_at f108_16 C s n z
theorem f108_17 : x_fetch q_k108 17 = x_pf 20 8 13 (.int) := rfl
theorem t108_17 (C : xF) (s n : Nat) (z : xS) : x_to q_k108 C s (n + 1) 17 z = x_nx q_k108 C s n ((x_pf 20 8 13 (.int)) C z) := x_to_at f108_17 C s n z
theorem f108_20 : x_fetch q_k108 20 = x_ldi 21 1 := rfl
theorem t108_20 (C : xF) (s n : Nat) (z : xS) : x_to q_k108 C s (n + 1) 20 z = x_nx q_k108 C s n ((x_ldi 21 1) C z) := x_to_at f108_20 C s n z
theorem f108_21 : x_fetch q_k108 21 = x_st (x_ifge 31 24) := rfl
theorem t108_21 (C : xF) (s n : Nat) (z : xS) : x_to q_k108 C s (n + 1) 21 z = x_nx q_k108 C s n ((x_st (x_ifge 31 24)) C z) := x_to_at f108_21 C s n z
theorem f108_24 : x_fetch q_k108 24 = x_lda 25 0 := rfl
theorem t108_24 (C : xF) (s n : Nat) (z : xS) : x_to q_k108 C s (n + 1) 24 z = x_nx q_k108 C s n ((x_lda 25 0) C z) := x_to_at f108_24 C s n z
theorem f108_25 : x_fetch q_k108 25 = x_st (x_push 26 (.int (1))) := rfl
theorem t108_25 (C : xF) (s n : Nat) (z : xS) : x_to q_k108 C s (n + 1) 25 z = x_nx q_k108 C s n ((x_st (x_push 26 (.int (1)))) C z) := x_to_at f108_25 C s n z
theorem f108_26 : x_fetch q_k108 26 = x_ldi 27 1 := rfl
theorem t108_26 (C : xF) (s n : Nat) (z : xS) : x_to q_k108 C s (n + 1) 26 z = x_nx q_k108 C s n ((x_ldi 27 1) C z) := x_to_at f108_26 C s n z
theorem f108_27 : x_fetch q_k108 27 = x_cv 30 93 3 8 := rfl
theorem t108_27 (C : xF) (s n : Nat) (z : xS) : x_to q_k108 C s (n + 1) 27 z = x_nx q_k108 C s n ((x_cv 30 93 3 8) C z) := x_to_at f108_27 C s n z
theorem f108_30 : x_fetch q_k108 30 = x_ri (.int) := rfl
theorem t108_30 (C : xF) (s n : Nat) (z : xS) : x_to q_k108 C s (n + 1) 30 z = x_nx q_k108 C s n ((x_ri (.int)) C z) := x_to_at f108_30 C s n z
theorem f108_31 : x_fetch q_k108 31 = x_lda 32 0 := rfl
theorem t108_31 (C : xF) (s n : Nat) (z : xS) : x_to q_k108 C s (n + 1) 31 z = x_nx q_k108 C s n ((x_lda 32 0) C z) := x_to_at f108_31 C s n z
theorem f108_32 : x_fetch q_k108 32 = x_gf 35 8 2 := rfl
theorem t108_32 (C : xF) (s n : Nat) (z : xS) : x_to q_k108 C s (n + 1) 32 z = x_nx q_k108 C s n ((x_gf 35 8 2) C z) := x_to_at f108_32 C s n z
theorem f108_35 : x_fetch q_k108 35 = x_st (x_push 37 (.int (30))) := rfl
theorem t108_35 (C : xF) (s n : Nat) (z : xS) : x_to q_k108 C s (n + 1) 35 z = x_nx q_k108 C s n ((x_st (x_push 37 (.int (30)))) C z) := x_to_at f108_35 C s n z
theorem f108_37 : x_fetch q_k108 37 = x_st (x_icne 48 40) := rfl
theorem t108_37 (C : xF) (s n : Nat) (z : xS) : x_to q_k108 C s (n + 1) 37 z = x_nx q_k108 C s n ((x_st (x_icne 48 40)) C z) := x_to_at f108_37 C s n z
theorem f108_40 : x_fetch q_k108 40 = x_lda 41 0 := rfl
theorem t108_40 (C : xF) (s n : Nat) (z : xS) : x_to q_k108 C s (n + 1) 40 z = x_nx q_k108 C s n ((x_lda 41 0) C z) := x_to_at f108_40 C s n z
theorem f108_41 : x_fetch q_k108 41 = x_st (x_push 42 (.int (2))) := rfl
theorem t108_41 (C : xF) (s n : Nat) (z : xS) : x_to q_k108 C s (n + 1) 41 z = x_nx q_k108 C s n ((x_st (x_push 42 (.int (2)))) C z) := x_to_at f108_41 C s n z
theorem f108_42 : x_fetch q_k108 42 = x_st (x_push 44 (.int (-3))) := rfl
theorem t108_42 (C : xF) (s n : Nat) (z : xS) : x_to q_k108 C s (n + 1) 42 z = x_nx q_k108 C s n ((x_st (x_push 44 (.int (-3)))) C z) := x_to_at f108_42 C s n z
theorem f108_44 : x_fetch q_k108 44 = x_cv 47 93 3 8 := rfl
theorem t108_44 (C : xF) (s n : Nat) (z : xS) : x_to q_k108 C s (n + 1) 44 z = x_nx q_k108 C s n ((x_cv 47 93 3 8) C z) := x_to_at f108_44 C s n z
theorem f108_47 : x_fetch q_k108 47 = x_ri (.int) := rfl
theorem t108_47 (C : xF) (s n : Nat) (z : xS) : x_to q_k108 C s (n + 1) 47 z = x_nx q_k108 C s n ((x_ri (.int)) C z) := x_to_at f108_47 C s n z
theorem f108_48 : x_fetch q_k108 48 = x_st (x_push 49 (.int (0))) := rfl
theorem t108_48 (C : xF) (s n : Nat) (z : xS) : x_to q_k108 C s (n + 1) 48 z = x_nx q_k108 C s n ((x_st (x_push 49 (.int (0)))) C z) := x_to_at f108_48 C s n z
theorem f108_49 : x_fetch q_k108 49 = x_sti 50 2 := rfl
theorem t108_49 (C : xF) (s n : Nat) (z : xS) : x_to q_k108 C s (n + 1) 49 z = x_nx q_k108 C s n ((x_sti 50 2) C z) := x_to_at f108_49 C s n z
theorem f108_50 : x_fetch q_k108 50 = x_ldi 51 2 := rfl
theorem t108_50 (C : xF) (s n : Nat) (z : xS) : x_to q_k108 C s (n + 1) 50 z = x_nx q_k108 C s n ((x_ldi 51 2) C z) := x_to_at f108_50 C s n z
theorem f108_51 : x_fetch q_k108 51 = x_st (x_push 53 (.int (26))) := rfl
theorem t108_51 (C : xF) (s n : Nat) (z : xS) : x_to q_k108 C s (n + 1) 51 z = x_nx q_k108 C s n ((x_st (x_push 53 (.int (26)))) C z) := x_to_at f108_51 C s n z
theorem f108_53 : x_fetch q_k108 53 = x_st (x_icge 74 56) := rfl
theorem t108_53 (C : xF) (s n : Nat) (z : xS) : x_to q_k108 C s (n + 1) 53 z = x_nx q_k108 C s n ((x_st (x_icge 74 56)) C z) := x_to_at f108_53 C s n z
theorem f108_56 : x_fetch q_k108 56 = x_lda 57 0 := rfl
theorem t108_56 (C : xF) (s n : Nat) (z : xS) : x_to q_k108 C s (n + 1) 56 z = x_nx q_k108 C s n ((x_lda 57 0) C z) := x_to_at f108_56 C s n z
theorem f108_57 : x_fetch q_k108 57 = x_gf 60 8 10 := rfl
theorem t108_57 (C : xF) (s n : Nat) (z : xS) : x_to q_k108 C s (n + 1) 57 z = x_nx q_k108 C s n ((x_gf 60 8 10) C z) := x_to_at f108_57 C s n z
theorem f108_60 : x_fetch q_k108 60 = x_ldi 61 2 := rfl
theorem t108_60 (C : xF) (s n : Nat) (z : xS) : x_to q_k108 C s (n + 1) 60 z = x_nx q_k108 C s n ((x_ldi 61 2) C z) := x_to_at f108_60 C s n z
theorem f108_61 : x_fetch q_k108 61 = x_lda 62 0 := rfl
theorem t108_61 (C : xF) (s n : Nat) (z : xS) : x_to q_k108 C s (n + 1) 61 z = x_nx q_k108 C s n ((x_lda 62 0) C z) := x_to_at f108_61 C s n z
theorem f108_62 : x_fetch q_k108 62 = x_gf 65 8 11 := rfl
theorem t108_62 (C : xF) (s n : Nat) (z : xS) : x_to q_k108 C s (n + 1) 62 z = x_nx q_k108 C s n ((x_gf 65 8 11) C z) := x_to_at f108_62 C s n z
theorem f108_65 : x_fetch q_k108 65 = x_ldi 66 2 := rfl
theorem t108_65 (C : xF) (s n : Nat) (z : xS) : x_to q_k108 C s (n + 1) 65 z = x_nx q_k108 C s n ((x_ldi 66 2) C z) := x_to_at f108_65 C s n z
theorem f108_66 : x_fetch q_k108 66 = x_ald 67 0 := rfl
theorem t108_66 (C : xF) (s n : Nat) (z : xS) : x_to q_k108 C s (n + 1) 66 z = x_nx q_k108 C s n ((x_ald 67 0) C z) := x_to_at f108_66 C s n z
theorem f108_67 : x_fetch q_k108 67 = x_ast 68 0 (fun x => x) := rfl
theorem t108_67 (C : xF) (s n : Nat) (z : xS) : x_to q_k108 C s (n + 1) 67 z = x_nx q_k108 C s n ((x_ast 68 0 (fun x => x)) C z) := x_to_at f108_67 C s n z
theorem f108_68 : x_fetch q_k108 68 = x_iinc 71 2 (1) := rfl
theorem t108_68 (C : xF) (s n : Nat) (z : xS) : x_to q_k108 C s (n + 1) 68 z = x_nx q_k108 C s n ((x_iinc 71 2 (1)) C z) := x_to_at f108_68 C s n z
theorem f108_71 : x_fetch q_k108 71 = x_st (x_goto 50) := rfl
theorem t108_71 (C : xF) (s n : Nat) (z : xS) : x_to q_k108 C s (n + 1) 71 z = x_nx q_k108 C s n ((x_st (x_goto 50)) C z) := x_to_at f108_71 C s n z
theorem f108_74 : x_fetch q_k108 74 = x_lda 75 0 := rfl
theorem t108_74 (C : xF) (s n : Nat) (z : xS) : x_to q_k108 C s (n + 1) 74 z = x_nx q_k108 C s n ((x_lda 75 0) C z) := x_to_at f108_74 C s n z
theorem f108_75 : x_fetch q_k108 75 = x_cv 78 106 1 8 := rfl
theorem t108_75 (C : xF) (s n : Nat) (z : xS) : x_to q_k108 C s (n + 1) 75 z = x_nx q_k108 C s n ((x_cv 78 106 1 8) C z) := x_to_at f108_75 C s n z
theorem f108_78 : x_fetch q_k108 78 = x_lda 79 0 := rfl
theorem t108_78 (C : xF) (s n : Nat) (z : xS) : x_to q_k108 C s (n + 1) 78 z = x_nx q_k108 C s n ((x_lda 79 0) C z) := x_to_at f108_78 C s n z
theorem f108_79 : x_fetch q_k108 79 = x_st (x_push 80 (.int (1))) := rfl
theorem t108_79 (C : xF) (s n : Nat) (z : xS) : x_to q_k108 C s (n + 1) 79 z = x_nx q_k108 C s n ((x_st (x_push 80 (.int (1)))) C z) := x_to_at f108_79 C s n z
theorem f108_80 : x_fetch q_k108 80 = x_st (x_push 81 (.int (0))) := rfl
theorem t108_80 (C : xF) (s n : Nat) (z : xS) : x_to q_k108 C s (n + 1) 80 z = x_nx q_k108 C s n ((x_st (x_push 81 (.int (0)))) C z) := x_to_at f108_80 C s n z
theorem f108_81 : x_fetch q_k108 81 = x_st (x_push 82 (.int (0))) := rfl
theorem t108_81 (C : xF) (s n : Nat) (z : xS) : x_to q_k108 C s (n + 1) 81 z = x_nx q_k108 C s n ((x_st (x_push 82 (.int (0)))) C z) := x_to_at f108_81 C s n z
theorem f108_82 : x_fetch q_k108 82 = x_cv 85 107 4 8 := rfl
theorem t108_82 (C : xF) (s n : Nat) (z : xS) : x_to q_k108 C s (n + 1) 82 z = x_nx q_k108 C s n ((x_cv 85 107 4 8) C z) := x_to_at f108_82 C s n z
theorem f108_85 : x_fetch q_k108 85 = x_ri (.int) := rfl
theorem t108_85 (C : xF) (s n : Nat) (z : xS) : x_to q_k108 C s (n + 1) 85 z = x_nx q_k108 C s n ((x_ri (.int)) C z) := x_to_at f108_85 C s n z
def cl (Ds : List (List (Int × List Int) × Bool × Int × Int)) (i : Nat) : List (Int × List Int) × Bool × Int × Int := Ds.getD i ([], false, 0, 0)
def RS (w : Nat → xC) (m : Nat → Int) (x : Nat → List Int) (Ds : List (List (Int × List Int) × Bool × Int × Int)) (T U : List Int) : Prop := RO w m x ∧ RI x ∧ m 2 = Ds.length ∧ Ds.length ≤ 30 ∧ (∀ i : Nat, i < Ds.length → RD i (cl Ds i).1 x ∧ gZ (x 34) i = bZ (cl Ds i).2.1 ∧ gZ (x 31) i = (cl Ds i).2.2.1 ∧ gZ (x 32) i = (cl Ds i).2.2.2 ∧ 0 ≤ (cl Ds i).2.2.1 ∧ (cl Ds i).2.2.1 ≤ i ∧ 0 ≤ (cl Ds i).2.2.2 ∧ (cl Ds i).2.2.2 < 1073741824) ∧ UOK U ∧ x 35 = U ∧ m 3 = T.length ∧ T.length ≤ 60 ∧ seg (x 37) 0 T.length = T ∧ ∀ c ∈ T, 32 ≤ c ∧ c ≤ 126
def FrR (w w' : Nat → xC) : Prop := ∀ j, j < 27 ∨ 51 < j → w' j = w j
theorem FrR.tr {w w' w'' : Nat → xC} (h : FrR w w') (g : FrR w' w'') : FrR w w'' := fun j hj => (g j hj).trans (h j hj)
theorem FrR.rf (w : Nat → xC) : FrR w w := fun _ _ => rfl
theorem FrR.of {ks : List Nat} {w w' : Nat → xC} (h : Fr ks w w') (hk : ∀ j ∈ ks, 27 ≤ j ∧ j ≤ 51) : FrR w w' := fun j hj => h j (fun z => by have := hk j z; omega)
theorem FrR.up {w w' : Nat → xC} {a : Nat} {c : xC} (h : FrR w w') (ha : 27 ≤ a) (hb : a ≤ 51) : FrR w (uH w' a c) := fun j hj => by
  rw [uH_ne (by omega)]
  exact h j hj
theorem kL2 : ∀ j ∈ ksL2, 27 ≤ j ∧ j ≤ 51 := by decide
theorem seg_get {P T : List Int} {n : Nat} (hn : n ≤ P.length) (h : seg P 0 n = T) {i : Nat} (hi : i < n) : gZ P i = T.getD i 0 := by
  rw [← h]
  unfold seg gZ
  rw [List.getD_eq_getElem?_getD, List.getD_eq_getElem?_getD, List.getElem?_take_of_lt (by omega), List.getElem?_drop]
  congr 2
  omega
theorem getD_cl {Ds : List (List (Int × List Int) × Bool × Int × Int)} {y : List (Int × List Int) × Bool × Int × Int} {i : Nat} : cl (Ds ++ [y]) i = if i < Ds.length then cl Ds i else if i = Ds.length then y else ([], false, 0, 0) := by
  unfold cl
  rw [List.getD_eq_getElem?_getD]
  by_cases h : i < Ds.length
  · rw [if_pos h, List.getElem?_append_left h, List.getD_eq_getElem?_getD]
  · rw [if_neg h, List.getElem?_append_right (by omega)]
    by_cases e : i = Ds.length
    · rw [if_pos e, e, Nat.sub_self]
      rfl
    · rw [if_neg e, List.getElem?_eq_none (by simp; omega)]
      rfl
section GI
variable {w : Nat → xC} {N : Nat} {m : Nat → Int} {x : Nat → List Int} {Ds : List (List (Int × List Int) × Bool × Int × Int)} {T U : List Int}
theorem RS.mv {w' : Nat → xC} {m' : Nat → Int} {x' : Nat → List Int} {T' : List Int} (h : RS w m x Ds T U) (a : RO w' m' x') (b : RI x') (e : ∀ j, 28 ≤ j → j ≤ 35 → x' j = x j) (e2 : m' 2 = m 2) (t1 : m' 3 = T'.length) (t2 : T'.length ≤ 60) (t3 : seg (x' 37) 0 T'.length = T') (t4 : ∀ c ∈ T', 32 ≤ c ∧ c ≤ 126) : RS w' m' x' Ds T' U := by
  obtain ⟨h1, h2, h3, h4, h5, h6, h7, h8⟩ := h
  refine ⟨a, b, by omega, h4, fun i hi => ?_, h6, by rw [e 35 (by decide) (by decide)]; exact h7, t1, t2, t3, t4⟩
  obtain ⟨k1, k2, k3, k4, k5⟩ := h5 i hi
  exact ⟨k1.mv (e 30 (by decide) (by decide)) (e 29 (by decide) (by decide)) (e 33 (by decide) (by decide)) (e 28 (by decide) (by decide)), by rw [e 34 (by decide) (by decide)]; exact k2, by rw [e 31 (by decide) (by decide)]; exact k3, by rw [e 32 (by decide) (by decide)]; exact k4, k5⟩
theorem RS.hd (h : RS w m x Ds T U) : ∀ i, 0 ≤ i → i < m 3 → 0 ≤ gZ (x 37) i ∧ gZ (x 37) i < 128 := fun i i0 i1 => by
  obtain ⟨h1, h2, h3, h4, h5, h6, h7, h8, h9, h10, h11⟩ := h
  have n37 : (x 37).length = 60 := (h1.2 37 (by decide) (by decide)).2
  have := seg_get (by omega) h10 (i := i.toNat) (by omega)
  rw [show ((i.toNat : Nat) : Int) = i by omega] at this
  rw [this]
  have := h11 _ (getD_mem (l := T) (i := i.toNat) (by omega))
  omega
theorem m93 (d : Nat) (hN : 53 ≤ N) (hm : w 27 = .inr (8, mF m)) (c r : Int) : Xc (d + 1) 93 [.ref 30, .int (iZ c), .int (iZ r)] (hp w N) (some (.int (iZ 0)), hp (uH w 27 (.inr (8, mF (st_ (st_ m 0 c) 1 r)))) N) := by
  refine Xc.of rfl (by simp [lg_sl, Value.category]) ?_ (hp_le (Nat.le_refl _) (fun j _ => by (simp only [uH]; repeat' split) <;> simp_all [x_c1, mF_len]))
  have hc : c1 (lv_args 0 [.ref 30, .int (iZ c), .int (iZ r)]) := by simp [c1, lv_args, Value.category]
  have l0 : x_lk (lv_args 0 [.ref 30, .int (iZ c), .int (iZ r)]) 0 = some (.ref 30) := rfl
  have l1 : x_lk (lv_args 0 [.ref 30, .int (iZ c), .int (iZ r)]) 1 = some (.int (iZ c)) := rfl
  have l2 : x_lk (lv_args 0 [.ref 30, .int (iZ c), .int (iZ r)]) 2 = some (.int (iZ r)) := rfl
  generalize lv_args 0 [.ref 30, .int (iZ c), .int (iZ r)] = lv at hc l0 l1 l2
  refine Gx.fin 40 Cs.tt (fun C _ => ?_)
  simp (disch := first | (refine c1_id ?_; assumption) | (refine c1_st rfl ?_; repeat (first | assumption | refine c1_st rfl ?_)) | omega) [nx_l, nx_r, nx_n, x_st, x_push, x_bin, x_div, x_un, x_dup, x_pop, x_dup2, x_goto, x_ifeq, x_ifne, x_iflt, x_ifge, x_ifgt, x_ifle, x_iceq, x_icne, x_iclt, x_icge, x_icgt, x_icle, x_ifnull, x_ifnonnull, x_ldi, x_lda, x_sti, x_sta, x_iinc, x_gf, x_pf, x_ald, x_ast, x_aln, x_len, x_cl_, x_cv, x_cs, x_rc, x_r0, x_isT, x_oi, x_rv, x_ri, x_ra, Value.category, t93_0, t93_1, t93_2, t93_5, t93_6, t93_7, t93_10, t93_11, lk_s, hp_get, hp_set, uH_at, uH_ne, uH_upd, uH_swap, iZ_add, iZ_sub, iZ_mul, iZ_neg, iZ_lt, iZ_le, iZ_eq, iZ_div, iZ_of, ix_Z, gZ_map, gZ_mapI, gZ_map', le_0, le_s, sZ_map, sZ_len, bZ_0, bZ_inj, bZ_t, bZ_f, nr_i, nr_0, nr_1, nr_b, ft_i, ft_b, ft_0, ft_1, zl_0, zl_1, mF_len, mg_0, mg_1, mg_2, mg_3, mg_4, mg_5, mg_6, mg_7, mg_8, mg_9, mg_10, mg_11, mg_12, mg_13, mg_14, mg_15, mg_16, mg_17, mg_18, mg_19, mg_20, mg_21, mg_22, mg_23, mg_24, mg_25, mg_26, mg_27, mg_28, mg_29, mg_30, mg_31, mg_32, mg_33, mg_34, mg_35, mg_36, mg_37, mg_38, ms_0, ms_1, ms_2, ms_13, ms_14, ms_15, ms_16, ms_21, ms_22, ms_23, ms_24, ms_28, ms_36, ms_37, ms_38, st_at, st_ne, st_st, st_swap, l0, l1, l2, hm, -List.filter_filter, -List.getElem?_map, -List.getD_eq_getElem?_getD]
def GVn (Ds : List (List (Int × List Int) × Bool × Int × Int)) (T U : List Int) (r : Int) (w' : Nat → xC) (m' : Nat → Int) (x' : Nat → List Int) : Prop := match rdQ T with
  | none => r = 0 ∧ m' 0 = 1 ∧ m' 1 = -1 ∧ RS w' m' x' Ds [] U
  | some l => if (ntC l (U, false)).2 = true then r = 0 ∧ m' 0 = 1 ∧ m' 1 = -2 ∧ RS w' m' x' Ds [] U else if Ds.length = 30 then r = 0 ∧ m' 0 = 2 ∧ m' 1 = -3 ∧ RS w' m' x' Ds [] U else r = Ds.length ∧ m' 0 = 0 ∧ m' 1 = 0 ∧ RS w' m' x' (Ds ++ [(rnD (uqs [] l), true, 0, ((2 ^ Ds.length : Nat) : Int))]) [] (ntC l (U, false)).1
theorem l108_50 (d : Nat) {Us : List Int} (hN : 53 ≤ N) (hm : w 27 = .inr (8, mF m)) (hs : w 36 = cI 0 Us) (hS : Us.length = 26) : ∀ (r : Nat) (k : Int) (Q : List Int) (lv : xL), Q.length = 26 → k + r = 26 → 0 ≤ k → c1 lv → x_lk lv 0 = some (.ref 30) → x_lk lv 2 = some (.int (iZ k)) → ∃ lv', c1 lv' ∧ (∀ j, j ≠ 2 → x_lk lv' j = x_lk lv j) ∧ ∀ res, Gx q_k108 d 74 (lv', [], hp (uH w 35 (cI 0 (cpl (0) (fun k => gZ Us k) r k Q))) N) res →
    Gx q_k108 d 50 (lv, [], hp (uH w 35 (cI 0 Q)) N) res := by
  intro r
  induction r with
  | zero =>
    intro k Q lv hQ hk h0 hc l0 l1 
    refine ⟨lv, hc, fun _ _ => rfl, fun res hcont => ?_⟩
    refine Gx.run 60 Cs.tt (fun C _ => ?_) hcont
    have b1 : 26 ≤ k := by omega
    simp (disch := first | (refine c1_id ?_; assumption) | (refine c1_st rfl ?_; repeat (first | assumption | refine c1_st rfl ?_)) | omega) [nx_l, nx_r, nx_n, x_st, x_push, x_bin, x_div, x_un, x_dup, x_pop, x_dup2, x_goto, x_ifeq, x_ifne, x_iflt, x_ifge, x_ifgt, x_ifle, x_iceq, x_icne, x_iclt, x_icge, x_icgt, x_icle, x_ifnull, x_ifnonnull, x_ldi, x_lda, x_sti, x_sta, x_iinc, x_gf, x_pf, x_ald, x_ast, x_aln, x_len, x_cl_, x_cv, x_cs, x_rc, x_r0, x_isT, x_oi, x_rv, x_ri, x_ra, Value.category, t108_0, t108_1, t108_2, t108_5, t108_6, t108_7, t108_10, t108_11, t108_14, t108_15, t108_16, t108_17, t108_20, t108_21, t108_24, t108_25, t108_26, t108_27, t108_30, t108_31, t108_32, t108_35, t108_37, t108_40, t108_41, t108_42, t108_44, t108_47, t108_48, t108_49, t108_50, t108_51, t108_53, t108_56, t108_57, t108_60, t108_61, t108_62, t108_65, t108_66, t108_67, t108_68, t108_71, t108_74, t108_75, t108_78, t108_79, t108_80, t108_81, t108_82, t108_85, lk_s, hp_get, hp_set, uH_at, uH_ne, uH_upd, uH_swap, iZ_add, iZ_sub, iZ_mul, iZ_neg, iZ_lt, iZ_le, iZ_eq, iZ_div, iZ_of, ix_Z, gZ_map, gZ_mapI, gZ_map', le_0, le_s, sZ_map, sZ_len, bZ_0, bZ_inj, bZ_t, bZ_f, nr_i, nr_0, nr_1, nr_b, ft_i, ft_b, ft_0, ft_1, zl_0, zl_1, zl_2, zl_3, zl_26, zl_30, mF_len, mg_0, mg_1, mg_2, mg_3, mg_4, mg_5, mg_6, mg_7, mg_8, mg_9, mg_10, mg_11, mg_12, mg_13, mg_14, mg_15, mg_16, mg_17, mg_18, mg_19, mg_20, mg_21, mg_22, mg_23, mg_24, mg_25, mg_26, mg_27, mg_28, mg_29, mg_30, mg_31, mg_32, mg_33, mg_34, mg_35, mg_36, mg_37, mg_38, ms_0, ms_1, ms_2, ms_13, ms_14, ms_15, ms_16, ms_21, ms_22, ms_23, ms_24, ms_28, ms_36, ms_37, ms_38, st_at, st_ne, st_st, st_swap, l0, l1, hm, hs, b1, cpl, -List.filter_filter, -List.getElem?_map, -List.getD_eq_getElem?_getD]
  | succ r ih =>
    intro k Q lv hQ hk h0 hc l0 l1 
    obtain ⟨lv', h1, h2, h3⟩ := ih (k + 1) (sZ Q (0 + k) ((fun k => gZ Us k) k)) (((2 : Nat), .int (iZ (k + 1))) :: List.filter (x_keep 2) lv) (by rw [sZ_len]; exact hQ) (by omega) (by omega) (c1_st rfl hc) (by rw [lk_s hc]; exact l0) (by rw [lk_s hc]; rfl) 
    refine ⟨lv', h1, fun j hj => by rw [h2 j hj, lk_s hc, if_neg (Ne.symm hj)], fun res hcont => ?_⟩
    refine Gx.run 60 Cs.tt (fun C _ => ?_) (h3 res hcont)
    have b1 : ¬ 26 ≤ k := by omega
    simp (disch := first | (refine c1_id ?_; assumption) | (refine c1_st rfl ?_; repeat (first | assumption | refine c1_st rfl ?_)) | omega) [nx_l, nx_r, nx_n, x_st, x_push, x_bin, x_div, x_un, x_dup, x_pop, x_dup2, x_goto, x_ifeq, x_ifne, x_iflt, x_ifge, x_ifgt, x_ifle, x_iceq, x_icne, x_iclt, x_icge, x_icgt, x_icle, x_ifnull, x_ifnonnull, x_ldi, x_lda, x_sti, x_sta, x_iinc, x_gf, x_pf, x_ald, x_ast, x_aln, x_len, x_cl_, x_cv, x_cs, x_rc, x_r0, x_isT, x_oi, x_rv, x_ri, x_ra, Value.category, t108_0, t108_1, t108_2, t108_5, t108_6, t108_7, t108_10, t108_11, t108_14, t108_15, t108_16, t108_17, t108_20, t108_21, t108_24, t108_25, t108_26, t108_27, t108_30, t108_31, t108_32, t108_35, t108_37, t108_40, t108_41, t108_42, t108_44, t108_47, t108_48, t108_49, t108_50, t108_51, t108_53, t108_56, t108_57, t108_60, t108_61, t108_62, t108_65, t108_66, t108_67, t108_68, t108_71, t108_74, t108_75, t108_78, t108_79, t108_80, t108_81, t108_82, t108_85, lk_s, hp_get, hp_set, uH_at, uH_ne, uH_upd, uH_swap, iZ_add, iZ_sub, iZ_mul, iZ_neg, iZ_lt, iZ_le, iZ_eq, iZ_div, iZ_of, ix_Z, gZ_map, gZ_mapI, gZ_map', le_0, le_s, sZ_map, sZ_len, bZ_0, bZ_inj, bZ_t, bZ_f, nr_i, nr_0, nr_1, nr_b, ft_i, ft_b, ft_0, ft_1, zl_0, zl_1, zl_2, zl_3, zl_26, zl_30, mF_len, mg_0, mg_1, mg_2, mg_3, mg_4, mg_5, mg_6, mg_7, mg_8, mg_9, mg_10, mg_11, mg_12, mg_13, mg_14, mg_15, mg_16, mg_17, mg_18, mg_19, mg_20, mg_21, mg_22, mg_23, mg_24, mg_25, mg_26, mg_27, mg_28, mg_29, mg_30, mg_31, mg_32, mg_33, mg_34, mg_35, mg_36, mg_37, mg_38, ms_0, ms_1, ms_2, ms_13, ms_14, ms_15, ms_16, ms_21, ms_22, ms_23, ms_24, ms_28, ms_36, ms_37, ms_38, st_at, st_ne, st_st, st_swap, l0, l1, hm, hs, b1, -List.filter_filter, -List.getElem?_map, -List.getD_eq_getElem?_getD]

theorem cp26 {A B : List Int} (ha : A.length = 26) (hb : B.length = 26) : cpl 0 (fun k => gZ A k) 26 0 B = A := by
  refine getD_ext (by rw [cpl_len, ha, hb]) (fun i hi => ?_)
  rw [cpl_len, hb] at hi
  have := cpl_at (D := 0) (g := fun k => gZ A k) (r := 26) (k := 0) (Q := B) (j := (i : Int)) (by omega) (by omega) (by omega)
  rw [if_pos (by omega), Int.sub_zero] at this
  exact this
theorem RS.add {w' : Nat → xC} {m' : Nat → Int} {x' : Nat → List Int} {D : List (Int × List Int)} {g : Bool} {dp nd : Int} (h : RS w m x Ds T U) (hl : Ds.length < 30) (a : RO w' m' x') (b : RI x') (hD : RD Ds.length D x') (old : ∀ (a : Int) D, 0 ≤ a → a < Ds.length → RD a D x → RD a D x') (e34 : ∀ a, 0 ≤ a → gZ (x' 34) a = if a = Ds.length then bZ g else gZ (x 34) a) (e31 : ∀ a, 0 ≤ a → gZ (x' 31) a = if a = Ds.length then dp else gZ (x 31) a) (e32 : ∀ a, 0 ≤ a → gZ (x' 32) a = if a = Ds.length then nd else gZ (x 32) a) (e2 : m' 2 = Ds.length + 1) (d0 : 0 ≤ dp) (d1 : dp ≤ Ds.length) (n0 : 0 ≤ nd) (n1 : nd < 1073741824) (U' : List Int) (hU : UOK U') (eU : x' 35 = U') (t1 : m' 3 = 0) : RS w' m' x' (Ds ++ [(D, g, dp, nd)]) [] U' := by
  obtain ⟨h1, h2, h3, h4, h5, h6, h7, h8⟩ := h
  refine ⟨a, b, by rw [e2]; simp, by simp; omega, fun i hi => ?_, hU, eU, t1, by simp, seg_nil _ _, fun c hc => by cases hc⟩
  simp only [List.length_append, List.length_cons, List.length_nil] at hi
  rw [getD_cl]
  by_cases hi2 : i < Ds.length
  · rw [if_pos hi2]
    obtain ⟨k1, k2, k3, k4, k5⟩ := h5 i hi2
    exact ⟨old i _ (by omega) (by omega) k1, by rw [e34 _ (by omega), if_neg (by omega)]; exact k2, by rw [e31 _ (by omega), if_neg (by omega)]; exact k3, by rw [e32 _ (by omega), if_neg (by omega)]; exact k4, k5⟩
  · have ei : i = Ds.length := by omega
    subst ei
    rw [if_neg hi2, if_pos rfl]
    exact ⟨hD, by rw [e34 _ (by omega), if_pos rfl], by rw [e31 _ (by omega), if_pos rfl], by rw [e32 _ (by omega), if_pos rfl], d0, by omega, n0, n1⟩
theorem pow30 {n : Nat} (h : n < 30) : (0 : Int) ≤ ((2 ^ n : Nat) : Int) ∧ ((2 ^ n : Nat) : Int) < 1073741824 := by
  have h2 : 2 ^ n < 2 ^ 30 := Nat.pow_lt_pow_right (by decide) h
  obtain ⟨k, hk⟩ : ∃ k : Nat, k = 2 ^ n := ⟨_, rfl⟩
  rw [← hk] at h2 ⊢
  omega
theorem m108 (d : Nat) (hN : 53 ≤ N) (h : RS w m x Ds T U) :
    ∃ (w' : Nat → xC) (m' : Nat → Int) (x' : Nat → List Int) (r : Int), FrR w w' ∧ GVn Ds T U r w' m' x' ∧ Xc (d + 6) 108 [.ref 30] (hp w N) (some (.int (iZ r)), hp w' N) := by
  have h' := h
  obtain ⟨h1, h2, h3, h4, h5, h6, h7, h8, h9, h10, h11⟩ := h'
  have hm := h1.1
  have hc : c1 (lv_args 0 [.ref 30]) := by simp [c1, lv_args, Value.category]
  have l0 : x_lk (lv_args 0 [.ref 30]) 0 = some (.ref 30) := rfl
  obtain ⟨m1, hm1⟩ : ∃ m1, m1 = st_ (st_ m 0 0) 1 0 := ⟨_, rfl⟩
  have k1 : ∀ i, i ≠ 0 → i ≠ 1 → m1 i = m i := fun i i0 i1 => by rw [hm1, st_ne i1, st_ne i0]
  obtain ⟨w1, hw1⟩ : ∃ w1, w1 = uH w 27 (.inr (8, mF m1)) := ⟨_, rfl⟩
  have R1 : RO w1 m1 x := by rw [hw1]; exact h1.fld m1
  have F1 : FrR w w1 := by rw [hw1]; exact (FrR.rf w).up (by decide) (by decide)
  have hd := h.hd
  have z3 := k1 3 (by decide) (by decide)
  obtain ⟨w2, m2, x2, code, b1, b2, b3, b4, b5, b6, b7, b8⟩ := m105 d hN R1 h2 (by rw [h7]; exact h6) (by rw [z3]; exact hd) (by omega) (by omega)
  rw [z3, h8, h10, h7] at b7
  obtain ⟨m3, hm3⟩ : ∃ m3, m3 = st_ m2 3 0 := ⟨_, rfl⟩
  obtain ⟨w3, hw3⟩ : ∃ w3, w3 = uH w2 27 (.inr (8, mF m3)) := ⟨_, rfl⟩
  have R3 : RO w3 m3 x2 := by rw [hw3]; exact b1.fld m3
  have F3 : FrR w w3 := by rw [hw3]; exact (F1.tr (FrR.of b3 kL2)).up (by decide) (by decide)
  have e35 : ∀ j, 28 ≤ j → j ≤ 35 → x2 j = x j := fun j j0 j1 => b4 j (by
    unfold ksL
    simp only [List.mem_cons, List.not_mem_nil, or_false]
    omega)
  have q0 : m2 0 = 0 := by rw [b5 0 (by decide) (by decide) (by decide) (by decide) (by decide), hm1, st_ne (by decide), st_at]
  have q1 : m2 1 = 0 := by rw [b5 1 (by decide) (by decide) (by decide) (by decide) (by decide), hm1, st_at]
  have q2 : m2 2 = m 2 := by rw [b5 2 (by decide) (by decide) (by decide) (by decide) (by decide)]; exact k1 2 (by decide) (by decide)
  have p0 : m3 0 = 0 := by rw [hm3, st_ne (by decide)]; exact q0
  have p1 : m3 1 = 0 := by rw [hm3, st_ne (by decide)]; exact q1
  have p2 : m3 2 = m 2 := by rw [hm3, st_ne (by decide)]; exact q2
  have p3 : m3 3 = 0 := by rw [hm3, st_at]
  have hm2 := b1.1
  have hm3' := R3.1
  have C1 := c1_st (i := 1) (v := .int (iZ code)) rfl hc
  have g0 : ∀ res, Gx q_k108 (d + 5) 20 ((1, .int (iZ code)) :: List.filter (x_keep 1) (lv_args 0 [.ref 30]), [], hp w3 N) res → Gx q_k108 (d + 5) 0 (lv_args 0 [.ref 30], [], hp w N) res := fun res hg => by
    generalize lv_args 0 [.ref 30] = lv0 at hc l0 hg
    refine Gx.run 20 Cs.tt (fun K _ => ?_) (Gx.run (pc := 10) (z := (lv0, [], hp w1 N)) 20 b8 (fun K mm => ?_) hg)
    · rw [hw1, hm1]
      simp (disch := first | (refine c1_id ?_; assumption) | (refine c1_st rfl ?_; repeat (first | assumption | refine c1_st rfl ?_)) | omega) [nx_l, nx_r, nx_n, x_st, x_push, x_bin, x_div, x_un, x_dup, x_pop, x_dup2, x_goto, x_ifeq, x_ifne, x_iflt, x_ifge, x_ifgt, x_ifle, x_iceq, x_icne, x_iclt, x_icge, x_icgt, x_icle, x_ifnull, x_ifnonnull, x_ldi, x_lda, x_sti, x_sta, x_iinc, x_gf, x_pf, x_ald, x_ast, x_aln, x_len, x_cl_, x_cv, x_cs, x_rc, x_r0, x_isT, x_oi, x_rv, x_ri, x_ra, Value.category, t108_0, t108_1, t108_2, t108_5, t108_6, t108_7, t108_10, t108_11, t108_14, t108_15, t108_16, t108_17, t108_20, t108_21, t108_24, t108_25, t108_26, t108_27, t108_30, t108_31, t108_32, t108_35, t108_37, t108_40, t108_41, t108_42, t108_44, t108_47, t108_48, t108_49, t108_50, t108_51, t108_53, t108_56, t108_57, t108_60, t108_61, t108_62, t108_65, t108_66, t108_67, t108_68, t108_71, t108_74, t108_75, t108_78, t108_79, t108_80, t108_81, t108_82, t108_85, lk_s, hp_get, hp_set, uH_at, uH_ne, uH_upd, uH_swap, iZ_add, iZ_sub, iZ_mul, iZ_neg, iZ_lt, iZ_le, iZ_eq, iZ_div, iZ_of, ix_Z, gZ_map, gZ_mapI, gZ_map', le_0, le_s, sZ_map, sZ_len, bZ_0, bZ_inj, bZ_t, bZ_f, nr_i, nr_0, nr_1, nr_b, ft_i, ft_b, ft_0, ft_1, zl_0, zl_1, zl_2, zl_3, zl_26, zl_30, mF_len, mg_0, mg_1, mg_2, mg_3, mg_4, mg_5, mg_6, mg_7, mg_8, mg_9, mg_10, mg_11, mg_12, mg_13, mg_14, mg_15, mg_16, mg_17, mg_18, mg_19, mg_20, mg_21, mg_22, mg_23, mg_24, mg_25, mg_26, mg_27, mg_28, mg_29, mg_30, mg_31, mg_32, mg_33, mg_34, mg_35, mg_36, mg_37, mg_38, ms_0, ms_1, ms_2, ms_13, ms_14, ms_15, ms_16, ms_21, ms_22, ms_23, ms_24, ms_28, ms_36, ms_37, ms_38, st_at, st_ne, st_st, st_swap, l0, hm, -List.filter_filter, -List.getElem?_map, -List.getD_eq_getElem?_getD]
    · rw [hw3, hm3]
      have hmw := R1.1
      simp (disch := first | (refine c1_id ?_; assumption) | (refine c1_st rfl ?_; repeat (first | assumption | refine c1_st rfl ?_)) | omega) [nx_l, nx_r, nx_n, x_st, x_push, x_bin, x_div, x_un, x_dup, x_pop, x_dup2, x_goto, x_ifeq, x_ifne, x_iflt, x_ifge, x_ifgt, x_ifle, x_iceq, x_icne, x_iclt, x_icge, x_icgt, x_icle, x_ifnull, x_ifnonnull, x_ldi, x_lda, x_sti, x_sta, x_iinc, x_gf, x_pf, x_ald, x_ast, x_aln, x_len, x_cl_, x_cv, x_cs, x_rc, x_r0, x_isT, x_oi, x_rv, x_ri, x_ra, Value.category, t108_0, t108_1, t108_2, t108_5, t108_6, t108_7, t108_10, t108_11, t108_14, t108_15, t108_16, t108_17, t108_20, t108_21, t108_24, t108_25, t108_26, t108_27, t108_30, t108_31, t108_32, t108_35, t108_37, t108_40, t108_41, t108_42, t108_44, t108_47, t108_48, t108_49, t108_50, t108_51, t108_53, t108_56, t108_57, t108_60, t108_61, t108_62, t108_65, t108_66, t108_67, t108_68, t108_71, t108_74, t108_75, t108_78, t108_79, t108_80, t108_81, t108_82, t108_85, lk_s, hp_get, hp_set, uH_at, uH_ne, uH_upd, uH_swap, iZ_add, iZ_sub, iZ_mul, iZ_neg, iZ_lt, iZ_le, iZ_eq, iZ_div, iZ_of, ix_Z, gZ_map, gZ_mapI, gZ_map', le_0, le_s, sZ_map, sZ_len, bZ_0, bZ_inj, bZ_t, bZ_f, nr_i, nr_0, nr_1, nr_b, ft_i, ft_b, ft_0, ft_1, zl_0, zl_1, zl_2, zl_3, zl_26, zl_30, mF_len, mg_0, mg_1, mg_2, mg_3, mg_4, mg_5, mg_6, mg_7, mg_8, mg_9, mg_10, mg_11, mg_12, mg_13, mg_14, mg_15, mg_16, mg_17, mg_18, mg_19, mg_20, mg_21, mg_22, mg_23, mg_24, mg_25, mg_26, mg_27, mg_28, mg_29, mg_30, mg_31, mg_32, mg_33, mg_34, mg_35, mg_36, mg_37, mg_38, ms_0, ms_1, ms_2, ms_13, ms_14, ms_15, ms_16, ms_21, ms_22, ms_23, ms_24, ms_28, ms_36, ms_37, ms_38, st_at, st_ne, st_st, st_swap, l0, hmw, hm2, mm, -List.filter_filter, -List.getElem?_map, -List.getD_eq_getElem?_getD]
  have j0 : x_lk ((1, .int (iZ code)) :: List.filter (x_keep 1) (lv_args 0 [.ref 30])) 0 = some (.ref 30) := by rw [lk_s hc]; exact l0
  have j1 : x_lk ((1, .int (iZ code)) :: List.filter (x_keep 1) (lv_args 0 [.ref 30])) 1 = some (.int (iZ code)) := by rw [lk_s hc]; rfl
  generalize ((1, .int (iZ code)) :: List.filter (x_keep 1) (lv_args 0 [.ref 30]) : xL) = lv1 at C1 g0 j0 j1
  have le : ∀ (w' : Nat → xC) (m' : Nat → Int) (x' : Nat → List Int), RO w' m' x' → FrR w w' → x_le (hp w N) (hp w' N) := fun w' m' x' a f => h1.le a (fun j hj => by
    rw [f j hj]
    exact Nat.le_refl _)
  have failed : ∀ (c r : Int), (∀ res, Xc (d + 5) 93 [.ref 30, .int (iZ c), .int (iZ r)] (hp w3 N) res → res.1 = some (.int (iZ 0)) → Gx q_k108 (d + 5) 20 (lv1, [], hp w3 N) res) → ∃ (w' : Nat → xC) (m' : Nat → Int), FrR w w' ∧ RS w' m' x2 Ds [] U ∧ m' 0 = c ∧ m' 1 = r ∧ Xc (d + 6) 108 [.ref 30] (hp w N) (some (.int (iZ 0)), hp w' N) := fun c r hg => by
    have X := m93 (w := w3) (m := m3) (d + 4) hN R3.1 c r
    have R4 := R3.fld (st_ (st_ m3 0 c) 1 r)
    have F4 : FrR w (uH w3 27 (.inr (8, mF (st_ (st_ m3 0 c) 1 r)))) := F3.up (by decide) (by decide)
    exact ⟨_, _, F4, h.mv R4 b2 e35 (by rw [st_ne (by decide), st_ne (by decide)]; exact p2) (by rw [st_ne (by decide), st_ne (by decide)]; exact p3) (by simp) (seg_nil _ _) (fun c hc => (by cases hc)), by rw [st_ne (by decide), st_at], by rw [st_at], Xc.of rfl (by simp [lg_sl, Value.category]) (g0 _ (hg _ X rfl)) (le _ _ _ R4 F4)⟩
  have neg : ∀ r : Int, code = r → r < 0 → -10 ≤ r → ∃ (w' : Nat → xC) (m' : Nat → Int), FrR w w' ∧ RS w' m' x2 Ds [] U ∧ m' 0 = 1 ∧ m' 1 = r ∧ Xc (d + 6) 108 [.ref 30] (hp w N) (some (.int (iZ 0)), hp w' N) := fun r er r0 r1 => failed 1 r (fun res X e => by
    obtain ⟨a, hh⟩ := res
    cases e
    refine Gx.fin 40 X (fun K mm => ?_)
    rw [er] at j1
    have c1' : ¬ 0 ≤ r := by omega
    simp (disch := first | (refine c1_id ?_; assumption) | (refine c1_st rfl ?_; repeat (first | assumption | refine c1_st rfl ?_)) | omega) [nx_l, nx_r, nx_n, x_st, x_push, x_bin, x_div, x_un, x_dup, x_pop, x_dup2, x_goto, x_ifeq, x_ifne, x_iflt, x_ifge, x_ifgt, x_ifle, x_iceq, x_icne, x_iclt, x_icge, x_icgt, x_icle, x_ifnull, x_ifnonnull, x_ldi, x_lda, x_sti, x_sta, x_iinc, x_gf, x_pf, x_ald, x_ast, x_aln, x_len, x_cl_, x_cv, x_cs, x_rc, x_r0, x_isT, x_oi, x_rv, x_ri, x_ra, Value.category, t108_0, t108_1, t108_2, t108_5, t108_6, t108_7, t108_10, t108_11, t108_14, t108_15, t108_16, t108_17, t108_20, t108_21, t108_24, t108_25, t108_26, t108_27, t108_30, t108_31, t108_32, t108_35, t108_37, t108_40, t108_41, t108_42, t108_44, t108_47, t108_48, t108_49, t108_50, t108_51, t108_53, t108_56, t108_57, t108_60, t108_61, t108_62, t108_65, t108_66, t108_67, t108_68, t108_71, t108_74, t108_75, t108_78, t108_79, t108_80, t108_81, t108_82, t108_85, lk_s, hp_get, hp_set, uH_at, uH_ne, uH_upd, uH_swap, iZ_add, iZ_sub, iZ_mul, iZ_neg, iZ_lt, iZ_le, iZ_eq, iZ_div, iZ_of, ix_Z, gZ_map, gZ_mapI, gZ_map', le_0, le_s, sZ_map, sZ_len, bZ_0, bZ_inj, bZ_t, bZ_f, nr_i, nr_0, nr_1, nr_b, ft_i, ft_b, ft_0, ft_1, zl_0, zl_1, zl_2, zl_3, zl_26, zl_30, mF_len, mg_0, mg_1, mg_2, mg_3, mg_4, mg_5, mg_6, mg_7, mg_8, mg_9, mg_10, mg_11, mg_12, mg_13, mg_14, mg_15, mg_16, mg_17, mg_18, mg_19, mg_20, mg_21, mg_22, mg_23, mg_24, mg_25, mg_26, mg_27, mg_28, mg_29, mg_30, mg_31, mg_32, mg_33, mg_34, mg_35, mg_36, mg_37, mg_38, ms_0, ms_1, ms_2, ms_13, ms_14, ms_15, ms_16, ms_21, ms_22, ms_23, ms_24, ms_28, ms_36, ms_37, ms_38, st_at, st_ne, st_st, st_swap, j0, j1, hm3', c1', mm, -List.filter_filter, -List.getElem?_map, -List.getD_eq_getElem?_getD])
  cases hQ : rdQ T with
  | none =>
    rw [hQ] at b7
    have b7' : code = -1 := b7
    obtain ⟨w', m', a1, a2, a3, a4, a5⟩ := neg (-1) b7' (by omega) (by omega)
    refine ⟨w', m', x2, 0, a1, ?_, a5⟩
    unfold GVn
    rw [hQ]
    exact ⟨rfl, a3, a4, a2⟩
  | some l =>
    rw [hQ] at b7
    obtain ⟨v1, v2, v3, v4, v5, v6, v7, v8⟩ := b7
    have ok := rdQ_ok hQ
    by_cases hz : (ntC l (U, false)).2 = true
    · rw [if_pos hz] at v1
      obtain ⟨w', m', a1, a2, a3, a4, a5⟩ := neg (-2) v1 (by omega) (by omega)
      refine ⟨w', m', x2, 0, a1, ?_, a5⟩
      unfold GVn
      rw [hQ]
      dsimp only
      rw [if_pos hz]
      exact ⟨rfl, a3, a4, a2⟩
    · rw [if_neg hz] at v1
      rw [v1] at j1
      by_cases h30 : Ds.length = 30
      · obtain ⟨w', m', a1, a2, a3, a4, a5⟩ := failed 2 (-3) (fun res X e => by
          obtain ⟨a, hh⟩ := res
          cases e
          refine Gx.fin 40 X (fun K mm => ?_)
          have c2 : m3 2 = 30 := by omega
          simp (disch := first | (refine c1_id ?_; assumption) | (refine c1_st rfl ?_; repeat (first | assumption | refine c1_st rfl ?_)) | omega) [nx_l, nx_r, nx_n, x_st, x_push, x_bin, x_div, x_un, x_dup, x_pop, x_dup2, x_goto, x_ifeq, x_ifne, x_iflt, x_ifge, x_ifgt, x_ifle, x_iceq, x_icne, x_iclt, x_icge, x_icgt, x_icle, x_ifnull, x_ifnonnull, x_ldi, x_lda, x_sti, x_sta, x_iinc, x_gf, x_pf, x_ald, x_ast, x_aln, x_len, x_cl_, x_cv, x_cs, x_rc, x_r0, x_isT, x_oi, x_rv, x_ri, x_ra, Value.category, t108_0, t108_1, t108_2, t108_5, t108_6, t108_7, t108_10, t108_11, t108_14, t108_15, t108_16, t108_17, t108_20, t108_21, t108_24, t108_25, t108_26, t108_27, t108_30, t108_31, t108_32, t108_35, t108_37, t108_40, t108_41, t108_42, t108_44, t108_47, t108_48, t108_49, t108_50, t108_51, t108_53, t108_56, t108_57, t108_60, t108_61, t108_62, t108_65, t108_66, t108_67, t108_68, t108_71, t108_74, t108_75, t108_78, t108_79, t108_80, t108_81, t108_82, t108_85, lk_s, hp_get, hp_set, uH_at, uH_ne, uH_upd, uH_swap, iZ_add, iZ_sub, iZ_mul, iZ_neg, iZ_lt, iZ_le, iZ_eq, iZ_div, iZ_of, ix_Z, gZ_map, gZ_mapI, gZ_map', le_0, le_s, sZ_map, sZ_len, bZ_0, bZ_inj, bZ_t, bZ_f, nr_i, nr_0, nr_1, nr_b, ft_i, ft_b, ft_0, ft_1, zl_0, zl_1, zl_2, zl_3, zl_26, zl_30, mF_len, mg_0, mg_1, mg_2, mg_3, mg_4, mg_5, mg_6, mg_7, mg_8, mg_9, mg_10, mg_11, mg_12, mg_13, mg_14, mg_15, mg_16, mg_17, mg_18, mg_19, mg_20, mg_21, mg_22, mg_23, mg_24, mg_25, mg_26, mg_27, mg_28, mg_29, mg_30, mg_31, mg_32, mg_33, mg_34, mg_35, mg_36, mg_37, mg_38, ms_0, ms_1, ms_2, ms_13, ms_14, ms_15, ms_16, ms_21, ms_22, ms_23, ms_24, ms_28, ms_36, ms_37, ms_38, st_at, st_ne, st_st, st_swap, j0, j1, hm3', c2, mm, -List.filter_filter, -List.getElem?_map, -List.getD_eq_getElem?_getD])
        refine ⟨w', m', x2, 0, a1, ?_, a5⟩
        unfold GVn
        rw [hQ]
        dsimp only
        rw [if_neg hz, if_pos h30]
        exact ⟨rfl, a3, a4, a2⟩
      · have C2 := c1_st (i := 2) (v := .int (iZ 0)) rfl C1
        have h35 : w3 35 = cI 0 (x2 35) := (R3.2 35 (by decide) (by decide)).1
        have n35 : (x2 35).length = 26 := (R3.2 35 (by decide) (by decide)).2
        obtain ⟨lvA, hA, sA, gA⟩ := l108_50 (w := w3) (m := m3) (Us := x2 36) (d + 5) hN R3.1 (R3.2 36 (by decide) (by decide)).1 b6.1 26 0 (x2 35) _ n35 (by omega) (by omega) C2 (by rw [lk_s C1]; exact j0) (by rw [lk_s C1]; rfl)
        rw [uH_self h35, cp26 b6.1 n35] at gA
        obtain ⟨w4, hw4⟩ : ∃ w4, w4 = uH w3 35 (cI 0 (x2 36)) := ⟨_, rfl⟩
        have R4 : RO w4 m3 (ux x2 35 (x2 36)) := by rw [hw4]; exact R3.set (j := 35) (by decide) b6.1
        rw [← hw4] at gA
        have F4 : FrR w w4 := by rw [hw4]; exact F3.up (by decide) (by decide)
        have a0 : x_lk lvA 0 = some (.ref 30) := by rw [sA 0 (by decide), lk_s C1]; exact j0
        have t7 : m3 7 = m2 7 := by rw [hm3]; exact st_ne (by decide)
        have t8 : m3 8 = m2 8 := by rw [hm3]; exact st_ne (by decide)
        obtain ⟨w5, R', Mp', F5, u1, u2, u3, u4, u5, u6, X5⟩ := m106 (d + 4) hN R4.1 (R4.2 38 (by decide) (by decide)).1 (R4.2 38 (by decide) (by decide)).2 (R4.2 40 (by decide) (by decide)).1 (R4.2 40 (by decide) (by decide)).2 v2 v3 (by omega) (by omega)
        have R5 : RO w5 (st_ m3 9 (fvs [] (flt (uqs [] l))).length) (ux (ux (ux x2 35 (x2 36)) 38 R') 40 Mp') := by
          refine RO.upd (ks := [38, 40]) R4 F5 u1 (fun j hj => ?_) (fun j hj => ?_)
          · simp only [List.mem_cons, List.not_mem_nil, or_false] at hj
            rcases hj with rfl | rfl
            · exact ⟨u2, u3⟩
            · exact ⟨u4, u5⟩
          · simp only [List.mem_cons, List.not_mem_nil, or_false, not_or] at hj
            rw [ux_ne hj.2, ux_ne hj.1]
        have I5 : RI (ux (ux (ux x2 35 (x2 36)) 38 R') 40 Mp') := ⟨b2.1, b2.2⟩
        have FR5 : FrR w w5 := F4.tr (FrR.of F5 (by decide))
        obtain ⟨w6, x6, o1, o2, o3, o4, o5, o6, o7, o8, o9, o10⟩ := m107 (C := rnD (uqs [] l)) (d + 4) hN R5 I5 u6 (by rw [st_ne (by decide), rnD_len]; omega) (by rw [st_ne (by decide), flt_rnD, rnm_len]; omega) ok.2.2 (Ds.length : Int) (by rw [st_ne (by decide)]; omega) (by omega) (by omega) true 0 0
        have FR6 : FrR w w6 := FR5.tr (FrR.of o2 (by decide))
        refine ⟨w6, st_ (st_ m3 9 ((fvs [] (flt (uqs [] l))).length : Int)) 2 ((Ds.length : Int) + 1), x6, Ds.length, FR6, ?_, Xc.of rfl (by simp [lg_sl, Value.category]) (g0 _ (Gx.run 40 Cs.tt (fun K _ => ?_) (gA _ (Gx.fin 40 (X5.and o10) (fun K mm => ?_))))) (le _ _ _ o1 FR6)⟩
        · unfold GVn
          rw [hQ]
          dsimp only
          rw [if_neg hz, if_neg h30]
          have p30 := pow30 (n := Ds.length) (by omega)
          have s0 : (st_ (st_ m3 9 ((fvs [] (flt (uqs [] l))).length : Int)) 2 ((Ds.length : Int) + 1)) 0 = 0 := by rw [st_ne (by decide), st_ne (by decide)]; exact p0
          have s1 : (st_ (st_ m3 9 ((fvs [] (flt (uqs [] l))).length : Int)) 2 ((Ds.length : Int) + 1)) 1 = 0 := by rw [st_ne (by decide), st_ne (by decide)]; exact p1
          refine ⟨rfl, s0, s1, RS.add (w := w) (m := m) (x := x) h (by omega) o1 o4 o5 (fun a D a0 a1 hD => o6 a D a0 a1 (hD.mv (e35 30 (by decide) (by decide)) (e35 29 (by decide) (by decide)) (e35 33 (by decide) (by decide)) (e35 28 (by decide) (by decide)))) (fun a a0 => ?_) (fun a a0 => ?_) (fun a a0 => ?_) (st_at _ _ _) (by omega) (by omega) p30.1 p30.2 _ (by rw [← v8]; exact b6) ?_ (by rw [st_ne (by decide), st_ne (by decide)]; exact p3)⟩
          · rw [o7 a a0]
            show _ = if a = (Ds.length : Int) then bZ true else gZ (x 34) a
            rw [← e35 34 (by decide) (by decide)]
            rfl
          · rw [o8 a a0]
            show _ = if a = (Ds.length : Int) then (0 : Int) else gZ (x 31) a
            rw [← e35 31 (by decide) (by decide)]
            rfl
          · rw [o9 a a0, if_pos rfl, show ((Ds.length : Int)).toNat = Ds.length by omega]
            show _ = if a = (Ds.length : Int) then ((2 ^ Ds.length : Nat) : Int) else gZ (x 32) a
            rw [← e35 32 (by decide) (by decide)]
            rfl
          · rw [o3 35 (by decide), ← v8]
            rfl
        · have c3 : ¬ m3 2 = 30 := by omega
          have c4 : (-2147483648 : Int) ≤ m3 2 := by omega
          have c5 : m3 2 < 2147483648 := by omega
          simp (disch := first | (refine c1_id ?_; assumption) | (refine c1_st rfl ?_; repeat (first | assumption | refine c1_st rfl ?_)) | omega) [nx_l, nx_r, nx_n, x_st, x_push, x_bin, x_div, x_un, x_dup, x_pop, x_dup2, x_goto, x_ifeq, x_ifne, x_iflt, x_ifge, x_ifgt, x_ifle, x_iceq, x_icne, x_iclt, x_icge, x_icgt, x_icle, x_ifnull, x_ifnonnull, x_ldi, x_lda, x_sti, x_sta, x_iinc, x_gf, x_pf, x_ald, x_ast, x_aln, x_len, x_cl_, x_cv, x_cs, x_rc, x_r0, x_isT, x_oi, x_rv, x_ri, x_ra, Value.category, t108_0, t108_1, t108_2, t108_5, t108_6, t108_7, t108_10, t108_11, t108_14, t108_15, t108_16, t108_17, t108_20, t108_21, t108_24, t108_25, t108_26, t108_27, t108_30, t108_31, t108_32, t108_35, t108_37, t108_40, t108_41, t108_42, t108_44, t108_47, t108_48, t108_49, t108_50, t108_51, t108_53, t108_56, t108_57, t108_60, t108_61, t108_62, t108_65, t108_66, t108_67, t108_68, t108_71, t108_74, t108_75, t108_78, t108_79, t108_80, t108_81, t108_82, t108_85, lk_s, hp_get, hp_set, uH_at, uH_ne, uH_upd, uH_swap, iZ_add, iZ_sub, iZ_mul, iZ_neg, iZ_lt, iZ_le, iZ_eq, iZ_div, iZ_of, ix_Z, gZ_map, gZ_mapI, gZ_map', le_0, le_s, sZ_map, sZ_len, bZ_0, bZ_inj, bZ_t, bZ_f, nr_i, nr_0, nr_1, nr_b, ft_i, ft_b, ft_0, ft_1, zl_0, zl_1, zl_2, zl_3, zl_26, zl_30, mF_len, mg_0, mg_1, mg_2, mg_3, mg_4, mg_5, mg_6, mg_7, mg_8, mg_9, mg_10, mg_11, mg_12, mg_13, mg_14, mg_15, mg_16, mg_17, mg_18, mg_19, mg_20, mg_21, mg_22, mg_23, mg_24, mg_25, mg_26, mg_27, mg_28, mg_29, mg_30, mg_31, mg_32, mg_33, mg_34, mg_35, mg_36, mg_37, mg_38, ms_0, ms_1, ms_2, ms_13, ms_14, ms_15, ms_16, ms_21, ms_22, ms_23, ms_24, ms_28, ms_36, ms_37, ms_38, st_at, st_ne, st_st, st_swap, j0, j1, hm3', c3, -List.filter_filter, -List.getElem?_map, -List.getD_eq_getElem?_getD]
        · obtain ⟨mm1, mm2⟩ := mm
          rw [bZ_t] at mm2
          have hm4 := R4.1
          have hm5 := R5.1
          simp (disch := first | (refine c1_id ?_; assumption) | (refine c1_st rfl ?_; repeat (first | assumption | refine c1_st rfl ?_)) | omega) [nx_l, nx_r, nx_n, x_st, x_push, x_bin, x_div, x_un, x_dup, x_pop, x_dup2, x_goto, x_ifeq, x_ifne, x_iflt, x_ifge, x_ifgt, x_ifle, x_iceq, x_icne, x_iclt, x_icge, x_icgt, x_icle, x_ifnull, x_ifnonnull, x_ldi, x_lda, x_sti, x_sta, x_iinc, x_gf, x_pf, x_ald, x_ast, x_aln, x_len, x_cl_, x_cv, x_cs, x_rc, x_r0, x_isT, x_oi, x_rv, x_ri, x_ra, Value.category, t108_0, t108_1, t108_2, t108_5, t108_6, t108_7, t108_10, t108_11, t108_14, t108_15, t108_16, t108_17, t108_20, t108_21, t108_24, t108_25, t108_26, t108_27, t108_30, t108_31, t108_32, t108_35, t108_37, t108_40, t108_41, t108_42, t108_44, t108_47, t108_48, t108_49, t108_50, t108_51, t108_53, t108_56, t108_57, t108_60, t108_61, t108_62, t108_65, t108_66, t108_67, t108_68, t108_71, t108_74, t108_75, t108_78, t108_79, t108_80, t108_81, t108_82, t108_85, lk_s, hp_get, hp_set, uH_at, uH_ne, uH_upd, uH_swap, iZ_add, iZ_sub, iZ_mul, iZ_neg, iZ_lt, iZ_le, iZ_eq, iZ_div, iZ_of, ix_Z, gZ_map, gZ_mapI, gZ_map', le_0, le_s, sZ_map, sZ_len, bZ_0, bZ_inj, bZ_t, bZ_f, nr_i, nr_0, nr_1, nr_b, ft_i, ft_b, ft_0, ft_1, zl_0, zl_1, zl_2, zl_3, zl_26, zl_30, mF_len, mg_0, mg_1, mg_2, mg_3, mg_4, mg_5, mg_6, mg_7, mg_8, mg_9, mg_10, mg_11, mg_12, mg_13, mg_14, mg_15, mg_16, mg_17, mg_18, mg_19, mg_20, mg_21, mg_22, mg_23, mg_24, mg_25, mg_26, mg_27, mg_28, mg_29, mg_30, mg_31, mg_32, mg_33, mg_34, mg_35, mg_36, mg_37, mg_38, ms_0, ms_1, ms_2, ms_13, ms_14, ms_15, ms_16, ms_21, ms_22, ms_23, ms_24, ms_28, ms_36, ms_37, ms_38, st_at, st_ne, st_st, st_swap, a0, hm4, hm5, mm1, mm2, -List.filter_filter, -List.getElem?_map, -List.getD_eq_getElem?_getD]
end GI
