/-! the reference: choices are tried; counting -/
theorem f131_0 : x_fetch q_k131 0 = x_st (x_push 1 (.int (0))) := rfl
theorem t131_0 (C : xF) (s n : Nat) (z : xS) : x_to q_k131 C s (n + 1) 0 z = x_nx q_k131 C s n ((x_st (x_push 1 (.int (0)))) C z) := x_to_at f131_0 C s n z
theorem f131_1 : x_fetch q_k131 1 = x_sti 2 3 := rfl
theorem t131_1 (C : xF) (s n : Nat) (z : xS) : x_to q_k131 C s (n + 1) 1 z = x_nx q_k131 C s n ((x_sti 2 3) C z) := x_to_at f131_1 C s n z
theorem f131_2 : x_fetch q_k131 2 = x_ldi 3 3 := rfl
theorem t131_2 (C : xF) (s n : Nat) (z : xS) : x_to q_k131 C s (n + 1) 2 z = x_nx q_k131 C s n ((x_ldi 3 3) C z) := x_to_at f131_2 C s n z
theorem f131_3 : x_fetch q_k131 3 = x_st (x_push 5 (.int (52))) := rfl
theorem t131_3 (C : xF) (s n : Nat) (z : xS) : x_to q_k131 C s (n + 1) 3 z = x_nx q_k131 C s n ((x_st (x_push 5 (.int (52)))) C z) := x_to_at f131_3 C s n z
theorem f131_5 : x_fetch q_k131 5 = x_st (x_icge 21 8) := rfl
theorem t131_5 (C : xF) (s n : Nat) (z : xS) : x_to q_k131 C s (n + 1) 5 z = x_nx q_k131 C s n ((x_st (x_icge 21 8)) C z) := x_to_at f131_5 C s n z
theorem f131_8 : x_fetch q_k131 8 = x_lda 9 0 := rfl
theorem t131_8 (C : xF) (s n : Nat) (z : xS) : x_to q_k131 C s (n + 1) 8 z = x_nx q_k131 C s n ((x_lda 9 0) C z) := x_to_at f131_8 C s n z
theorem f131_9 : x_fetch q_k131 9 = x_gf 12 8 30 := rfl
theorem t131_9 (C : xF) (s n : Nat) (z : xS) : x_to q_k131 C s (n + 1) 9 z = x_nx q_k131 C s n ((x_gf 12 8 30) C z) := x_to_at f131_9 C s n z
theorem f131_12 : x_fetch q_k131 12 = x_ldi 13 3 := rfl
theorem t131_12 (C : xF) (s n : Nat) (z : xS) : x_to q_k131 C s (n + 1) 12 z = x_nx q_k131 C s n ((x_ldi 13 3) C z) := x_to_at f131_12 C s n z
theorem f131_13 : x_fetch q_k131 13 = x_st (x_push 14 (.int (-1))) := rfl
theorem t131_13 (C : xF) (s n : Nat) (z : xS) : x_to q_k131 C s (n + 1) 13 z = x_nx q_k131 C s n ((x_st (x_push 14 (.int (-1)))) C z) := x_to_at f131_13 C s n z
theorem f131_14 : x_fetch q_k131 14 = x_ast 15 0 (fun x => x) := rfl
theorem t131_14 (C : xF) (s n : Nat) (z : xS) : x_to q_k131 C s (n + 1) 14 z = x_nx q_k131 C s n ((x_ast 15 0 (fun x => x)) C z) := x_to_at f131_14 C s n z
theorem f131_15 : x_fetch q_k131 15 = x_iinc 18 3 (1) := rfl
theorem t131_15 (C : xF) (s n : Nat) (z : xS) : x_to q_k131 C s (n + 1) 15 z = x_nx q_k131 C s n ((x_iinc 18 3 (1)) C z) := x_to_at f131_15 C s n z
theorem f131_18 : x_fetch q_k131 18 = x_st (x_goto 2) := rfl
theorem t131_18 (C : xF) (s n : Nat) (z : xS) : x_to q_k131 C s (n + 1) 18 z = x_nx q_k131 C s n ((x_st (x_goto 2)) C z) := x_to_at f131_18 C s n z
theorem f131_21 : x_fetch q_k131 21 = x_st (x_push 22 (.int (0))) := rfl
theorem t131_21 (C : xF) (s n : Nat) (z : xS) : x_to q_k131 C s (n + 1) 21 z = x_nx q_k131 C s n ((x_st (x_push 22 (.int (0)))) C z) := x_to_at f131_21 C s n z
theorem f131_22 : x_fetch q_k131 22 = x_sti 23 3 := rfl
theorem t131_22 (C : xF) (s n : Nat) (z : xS) : x_to q_k131 C s (n + 1) 22 z = x_nx q_k131 C s n ((x_sti 23 3) C z) := x_to_at f131_22 C s n z
theorem f131_23 : x_fetch q_k131 23 = x_ldi 24 3 := rfl
theorem t131_23 (C : xF) (s n : Nat) (z : xS) : x_to q_k131 C s (n + 1) 23 z = x_nx q_k131 C s n ((x_ldi 24 3) C z) := x_to_at f131_23 C s n z
theorem f131_24 : x_fetch q_k131 24 = x_ldi 25 2 := rfl
theorem t131_24 (C : xF) (s n : Nat) (z : xS) : x_to q_k131 C s (n + 1) 24 z = x_nx q_k131 C s n ((x_ldi 25 2) C z) := x_to_at f131_24 C s n z
theorem f131_25 : x_fetch q_k131 25 = x_st (x_icge 93 28) := rfl
theorem t131_25 (C : xF) (s n : Nat) (z : xS) : x_to q_k131 C s (n + 1) 25 z = x_nx q_k131 C s n ((x_st (x_icge 93 28)) C z) := x_to_at f131_25 C s n z
theorem f131_28 : x_fetch q_k131 28 = x_lda 29 0 := rfl
theorem t131_28 (C : xF) (s n : Nat) (z : xS) : x_to q_k131 C s (n + 1) 28 z = x_nx q_k131 C s n ((x_lda 29 0) C z) := x_to_at f131_28 C s n z
theorem f131_29 : x_fetch q_k131 29 = x_gf 32 8 35 := rfl
theorem t131_29 (C : xF) (s n : Nat) (z : xS) : x_to q_k131 C s (n + 1) 29 z = x_nx q_k131 C s n ((x_gf 32 8 35) C z) := x_to_at f131_29 C s n z
theorem f131_32 : x_fetch q_k131 32 = x_ldi 33 3 := rfl
theorem t131_32 (C : xF) (s n : Nat) (z : xS) : x_to q_k131 C s (n + 1) 32 z = x_nx q_k131 C s n ((x_ldi 33 3) C z) := x_to_at f131_32 C s n z
theorem f131_33 : x_fetch q_k131 33 = x_ald 34 0 := rfl
theorem t131_33 (C : xF) (s n : Nat) (z : xS) : x_to q_k131 C s (n + 1) 33 z = x_nx q_k131 C s n ((x_ald 34 0) C z) := x_to_at f131_33 C s n z
theorem f131_34 : x_fetch q_k131 34 = x_sti 36 4 := rfl
theorem t131_34 (C : xF) (s n : Nat) (z : xS) : x_to q_k131 C s (n + 1) 34 z = x_nx q_k131 C s n ((x_sti 36 4) C z) := x_to_at f131_34 C s n z
theorem f131_36 : x_fetch q_k131 36 = x_lda 37 0 := rfl
theorem t131_36 (C : xF) (s n : Nat) (z : xS) : x_to q_k131 C s (n + 1) 36 z = x_nx q_k131 C s n ((x_lda 37 0) C z) := x_to_at f131_36 C s n z
theorem f131_37 : x_fetch q_k131 37 = x_gf 40 8 8 := rfl
theorem t131_37 (C : xF) (s n : Nat) (z : xS) : x_to q_k131 C s (n + 1) 37 z = x_nx q_k131 C s n ((x_gf 40 8 8) C z) := x_to_at f131_37 C s n z
theorem f131_40 : x_fetch q_k131 40 = x_st (x_push 42 (.int (7))) := rfl
theorem t131_40 (C : xF) (s n : Nat) (z : xS) : x_to q_k131 C s (n + 1) 40 z = x_nx q_k131 C s n ((x_st (x_push 42 (.int (7)))) C z) := x_to_at f131_40 C s n z
theorem f131_42 : x_fetch q_k131 42 = x_ldi 43 1 := rfl
theorem t131_42 (C : xF) (s n : Nat) (z : xS) : x_to q_k131 C s (n + 1) 42 z = x_nx q_k131 C s n ((x_ldi 43 1) C z) := x_to_at f131_42 C s n z
theorem f131_43 : x_fetch q_k131 43 = x_st (x_bin 44 (fun a b => a * b)) := rfl
theorem t131_43 (C : xF) (s n : Nat) (z : xS) : x_to q_k131 C s (n + 1) 43 z = x_nx q_k131 C s n ((x_st (x_bin 44 (fun a b => a * b))) C z) := x_to_at f131_43 C s n z
theorem f131_44 : x_fetch q_k131 44 = x_ldi 45 3 := rfl
theorem t131_44 (C : xF) (s n : Nat) (z : xS) : x_to q_k131 C s (n + 1) 44 z = x_nx q_k131 C s n ((x_ldi 45 3) C z) := x_to_at f131_44 C s n z
theorem f131_45 : x_fetch q_k131 45 = x_st (x_bin 46 (fun a b => a + b)) := rfl
theorem t131_45 (C : xF) (s n : Nat) (z : xS) : x_to q_k131 C s (n + 1) 45 z = x_nx q_k131 C s n ((x_st (x_bin 46 (fun a b => a + b))) C z) := x_to_at f131_45 C s n z
theorem f131_46 : x_fetch q_k131 46 = x_ald 47 1 := rfl
theorem t131_46 (C : xF) (s n : Nat) (z : xS) : x_to q_k131 C s (n + 1) 46 z = x_nx q_k131 C s n ((x_ald 47 1) C z) := x_to_at f131_46 C s n z
theorem f131_47 : x_fetch q_k131 47 = x_lda 48 0 := rfl
theorem t131_47 (C : xF) (s n : Nat) (z : xS) : x_to q_k131 C s (n + 1) 47 z = x_nx q_k131 C s n ((x_lda 48 0) C z) := x_to_at f131_47 C s n z
theorem f131_48 : x_fetch q_k131 48 = x_gf 51 8 27 := rfl
theorem t131_48 (C : xF) (s n : Nat) (z : xS) : x_to q_k131 C s (n + 1) 48 z = x_nx q_k131 C s n ((x_gf 51 8 27) C z) := x_to_at f131_48 C s n z
theorem f131_51 : x_fetch q_k131 51 = x_ldi 53 4 := rfl
theorem t131_51 (C : xF) (s n : Nat) (z : xS) : x_to q_k131 C s (n + 1) 51 z = x_nx q_k131 C s n ((x_ldi 53 4) C z) := x_to_at f131_51 C s n z
theorem f131_53 : x_fetch q_k131 53 = x_ald 54 1 := rfl
theorem t131_53 (C : xF) (s n : Nat) (z : xS) : x_to q_k131 C s (n + 1) 53 z = x_nx q_k131 C s n ((x_ald 54 1) C z) := x_to_at f131_53 C s n z
theorem f131_54 : x_fetch q_k131 54 = x_st (x_icne 85 57) := rfl
theorem t131_54 (C : xF) (s n : Nat) (z : xS) : x_to q_k131 C s (n + 1) 54 z = x_nx q_k131 C s n ((x_st (x_icne 85 57)) C z) := x_to_at f131_54 C s n z
theorem f131_57 : x_fetch q_k131 57 = x_lda 58 0 := rfl
theorem t131_57 (C : xF) (s n : Nat) (z : xS) : x_to q_k131 C s (n + 1) 57 z = x_nx q_k131 C s n ((x_lda 58 0) C z) := x_to_at f131_57 C s n z
theorem f131_58 : x_fetch q_k131 58 = x_lda 59 0 := rfl
theorem t131_58 (C : xF) (s n : Nat) (z : xS) : x_to q_k131 C s (n + 1) 58 z = x_nx q_k131 C s n ((x_lda 59 0) C z) := x_to_at f131_58 C s n z
theorem f131_59 : x_fetch q_k131 59 = x_gf 62 8 4 := rfl
theorem t131_59 (C : xF) (s n : Nat) (z : xS) : x_to q_k131 C s (n + 1) 59 z = x_nx q_k131 C s n ((x_gf 62 8 4) C z) := x_to_at f131_59 C s n z
theorem f131_62 : x_fetch q_k131 62 = x_st (x_push 64 (.int (7))) := rfl
theorem t131_62 (C : xF) (s n : Nat) (z : xS) : x_to q_k131 C s (n + 1) 62 z = x_nx q_k131 C s n ((x_st (x_push 64 (.int (7)))) C z) := x_to_at f131_62 C s n z
theorem f131_64 : x_fetch q_k131 64 = x_ldi 65 1 := rfl
theorem t131_64 (C : xF) (s n : Nat) (z : xS) : x_to q_k131 C s (n + 1) 64 z = x_nx q_k131 C s n ((x_ldi 65 1) C z) := x_to_at f131_64 C s n z
theorem f131_65 : x_fetch q_k131 65 = x_st (x_bin 66 (fun a b => a * b)) := rfl
theorem t131_65 (C : xF) (s n : Nat) (z : xS) : x_to q_k131 C s (n + 1) 65 z = x_nx q_k131 C s n ((x_st (x_bin 66 (fun a b => a * b))) C z) := x_to_at f131_65 C s n z
theorem f131_66 : x_fetch q_k131 66 = x_ldi 67 3 := rfl
theorem t131_66 (C : xF) (s n : Nat) (z : xS) : x_to q_k131 C s (n + 1) 66 z = x_nx q_k131 C s n ((x_ldi 67 3) C z) := x_to_at f131_66 C s n z
theorem f131_67 : x_fetch q_k131 67 = x_st (x_bin 68 (fun a b => a + b)) := rfl
theorem t131_67 (C : xF) (s n : Nat) (z : xS) : x_to q_k131 C s (n + 1) 67 z = x_nx q_k131 C s n ((x_st (x_bin 68 (fun a b => a + b))) C z) := x_to_at f131_67 C s n z
theorem f131_68 : x_fetch q_k131 68 = x_ald 69 0 := rfl
theorem t131_68 (C : xF) (s n : Nat) (z : xS) : x_to q_k131 C s (n + 1) 68 z = x_nx q_k131 C s n ((x_ald 69 0) C z) := x_to_at f131_68 C s n z
theorem f131_69 : x_fetch q_k131 69 = x_st (x_push 71 (.int (88))) := rfl
theorem t131_69 (C : xF) (s n : Nat) (z : xS) : x_to q_k131 C s (n + 1) 69 z = x_nx q_k131 C s n ((x_st (x_push 71 (.int (88)))) C z) := x_to_at f131_69 C s n z
theorem f131_71 : x_fetch q_k131 71 = x_lda 72 0 := rfl
theorem t131_71 (C : xF) (s n : Nat) (z : xS) : x_to q_k131 C s (n + 1) 71 z = x_nx q_k131 C s n ((x_lda 72 0) C z) := x_to_at f131_71 C s n z
theorem f131_72 : x_fetch q_k131 72 = x_gf 75 8 26 := rfl
theorem t131_72 (C : xF) (s n : Nat) (z : xS) : x_to q_k131 C s (n + 1) 72 z = x_nx q_k131 C s n ((x_gf 75 8 26) C z) := x_to_at f131_72 C s n z
theorem f131_75 : x_fetch q_k131 75 = x_ldi 77 4 := rfl
theorem t131_75 (C : xF) (s n : Nat) (z : xS) : x_to q_k131 C s (n + 1) 75 z = x_nx q_k131 C s n ((x_ldi 77 4) C z) := x_to_at f131_75 C s n z
theorem f131_77 : x_fetch q_k131 77 = x_ald 78 0 := rfl
theorem t131_77 (C : xF) (s n : Nat) (z : xS) : x_to q_k131 C s (n + 1) 77 z = x_nx q_k131 C s n ((x_ald 78 0) C z) := x_to_at f131_77 C s n z
theorem f131_78 : x_fetch q_k131 78 = x_st (x_bin 79 (fun a b => a + b)) := rfl
theorem t131_78 (C : xF) (s n : Nat) (z : xS) : x_to q_k131 C s (n + 1) 78 z = x_nx q_k131 C s n ((x_st (x_bin 79 (fun a b => a + b))) C z) := x_to_at f131_78 C s n z
theorem f131_79 : x_fetch q_k131 79 = x_cv 82 128 3 8 := rfl
theorem t131_79 (C : xF) (s n : Nat) (z : xS) : x_to q_k131 C s (n + 1) 79 z = x_nx q_k131 C s n ((x_cv 82 128 3 8) C z) := x_to_at f131_79 C s n z
theorem f131_82 : x_fetch q_k131 82 = x_st (x_ifne 87 85) := rfl
theorem t131_82 (C : xF) (s n : Nat) (z : xS) : x_to q_k131 C s (n + 1) 82 z = x_nx q_k131 C s n ((x_st (x_ifne 87 85)) C z) := x_to_at f131_82 C s n z
theorem f131_85 : x_fetch q_k131 85 = x_ldi 86 3 := rfl
theorem t131_85 (C : xF) (s n : Nat) (z : xS) : x_to q_k131 C s (n + 1) 85 z = x_nx q_k131 C s n ((x_ldi 86 3) C z) := x_to_at f131_85 C s n z
theorem f131_86 : x_fetch q_k131 86 = x_ri (.int) := rfl
theorem t131_86 (C : xF) (s n : Nat) (z : xS) : x_to q_k131 C s (n + 1) 86 z = x_nx q_k131 C s n ((x_ri (.int)) C z) := x_to_at f131_86 C s n z
theorem f131_87 : x_fetch q_k131 87 = x_iinc 90 3 (1) := rfl
theorem t131_87 (C : xF) (s n : Nat) (z : xS) : x_to q_k131 C s (n + 1) 87 z = x_nx q_k131 C s n ((x_iinc 90 3 (1)) C z) := x_to_at f131_87 C s n z
theorem f131_90 : x_fetch q_k131 90 = x_st (x_goto 23) := rfl
theorem t131_90 (C : xF) (s n : Nat) (z : xS) : x_to q_k131 C s (n + 1) 90 z = x_nx q_k131 C s n ((x_st (x_goto 23)) C z) := x_to_at f131_90 C s n z
theorem f131_93 : x_fetch q_k131 93 = x_ldi 94 2 := rfl
theorem t131_93 (C : xF) (s n : Nat) (z : xS) : x_to q_k131 C s (n + 1) 93 z = x_nx q_k131 C s n ((x_ldi 94 2) C z) := x_to_at f131_93 C s n z
theorem f131_94 : x_fetch q_k131 94 = x_ri (.int) := rfl
theorem t131_94 (C : xF) (s n : Nat) (z : xS) : x_to q_k131 C s (n + 1) 94 z = x_nx q_k131 C s n ((x_ri (.int)) C z) := x_to_at f131_94 C s n z
def mtL (D E : List (Int × List Int)) (k c : Nat) (b : Int → List Int) : Option (Int → List Int) := if (lC D k).1 = (lC E c).1 then mtT (lC D k).2 (lC E c).2 b else none
theorem vl_zero {m : Nat} : ∀ n : Nat, vl m (List.replicate n 0) = 0
  | 0 => rfl
  | n + 1 => by
    show 0 * m ^ (List.replicate n 0).length + vl m (List.replicate n 0) = 0
    rw [vl_zero n, Nat.zero_mul]
theorem take_sc {cs : List Nat} {k : Nat} (h : k < cs.length) : cs.take (k + 1) = cs.take k ++ [cs.getD k 0] := by
  rw [List.take_succ, List.getD_eq_getElem?_getD, List.getElem?_eq_getElem h]
  rfl
theorem vl_take {m : Nat} {cs : List Nat} {k : Nat} (h : k < cs.length) : vl m (cs.take (k + 1)) = vl m (cs.take k) * m + cs.getD k 0 := by
  rw [take_sc h, vl_app]
  show vl m (cs.take k) * m ^ 1 + (cs.getD k 0 * m ^ 0 + 0) = _
  rw [Nat.pow_one, Nat.pow_zero, Nat.mul_one, Nat.add_zero]
theorem getD_lt {cs : List Nat} {m k : Nat} (h : ∀ c ∈ cs, c < m) (hk : k < cs.length) : cs.getD k 0 < m := by
  rw [List.getD_eq_getElem?_getD, List.getElem?_eq_getElem hk]
  exact h _ (List.getElem_mem hk)
/-- figures in a row of ints -/
def CH (Q : List Int) (cs : List Nat) : Prop := ∀ k : Nat, k < cs.length → gZ Q k = cs.getD k 0
section FI
variable {w : Nat → xC} {N : Nat} {m : Nat → Int} {x : Nat → List Int} {D E : List (Int × List Int)} {i : Int}
def SPc (x : Nat → List Int) (i : Int) (D E : List (Int × List Int)) : Prop := RC i D (x 30) (x 29) (x 33) ∧ gC D ∧ gC E ∧ RW E (x 42) (x 43) (x 44) ∧ LD 0 D (x 45) ∧ LD 88 E (x 45) ∧ SOK (x 45)
theorem l131 (d : Nat) (hN : 53 ≤ N) {w0 : Nat → xC} (h : RO w0 m x) (hS : SPc x i D E) : ∀ (cs : List Nat) (k : Nat) (b : Int → List Int) (Bd : List Int) (w : Nat → xC) (lv : xL), k + cs.length = D.length → (∀ j : Nat, j < cs.length → gZ (x 51) ((k : Int) + j) = cs.getD j 0) → (∀ c ∈ cs, c < E.length) → Fr [46] w0 w → w 46 = cI 0 Bd → BM (x 45) Bd b → c1 lv → x_lk lv 0 = some (.ref 30) → x_lk lv 1 = some (.int (iZ i)) → x_lk lv 2 = some (.int (iZ D.length)) → x_lk lv 3 = some (.int (iZ (k : Int))) → ∃ (w' : Nat → xC) (Bd' : List Int), Fr [46] w w' ∧ w' 46 = cI 0 Bd' ∧ Bd'.length = 52 ∧ Gx q_k131 (d + 4) 23 (lv, [], hp w N) (some (.int (iZ (ftC (mtL D E) cs k b : Nat))), hp w' N) := by
  obtain ⟨⟨a1, a2, a3, a4, a5, a6, a7, a8, a9⟩, gD, gE, hW, L1, L2, hO⟩ := hS
  have r_ : ∀ j, 28 ≤ j → j ≤ 51 → w0 j = cI (kdR j) (x j) ∧ (x j).length = lnR j := h.2
  have n45 : (x 45).length = 160 := (r_ 45 (by decide) (by decide)).2
  have n51 : (x 51).length = 6 := (r_ 51 (by decide) (by decide)).2
  have n43 : (x 43).length = 8 := (r_ 43 (by decide) (by decide)).2
  have n44 : (x 44).length = 8 := (r_ 44 (by decide) (by decide)).2
  have gE1 := gE.1
  have gE2 := gE.2.1
  have gD2 := gD.2.1
  intro cs
  induction cs with
  | nil =>
    intro k b Bd w lv hk hch hc9 hF hB hBM hc l0 l1 l2 l3
    simp only [List.length_nil, Nat.add_zero] at hk
    subst hk
    refine ⟨w, Bd, Fr.rf _ _, hB, hBM.1, Gx.fin 20 Cs.tt (fun C _ => ?_)⟩
    have b1 : (D.length : Int) ≤ (D.length : Int) := Int.le_refl _
    have e : ftC (mtL D E) [] D.length b = D.length := rfl
    rw [e]
    simp (disch := first | (refine c1_id ?_; assumption) | (refine c1_st rfl ?_; repeat (first | assumption | refine c1_st rfl ?_)) | omega) [nx_l, nx_r, nx_n, x_st, x_push, x_bin, x_div, x_un, x_dup, x_pop, x_dup2, x_goto, x_ifeq, x_ifne, x_iflt, x_ifge, x_ifgt, x_ifle, x_iceq, x_icne, x_iclt, x_icge, x_icgt, x_icle, x_ifnull, x_ifnonnull, x_ldi, x_lda, x_sti, x_sta, x_iinc, x_gf, x_pf, x_ald, x_ast, x_aln, x_len, x_cl_, x_cv, x_cs, x_rc, x_r0, x_isT, x_oi, x_rv, x_ri, x_ra, Value.category, t131_0, t131_1, t131_2, t131_3, t131_5, t131_8, t131_9, t131_12, t131_13, t131_14, t131_15, t131_18, t131_21, t131_22, t131_23, t131_24, t131_25, t131_28, t131_29, t131_32, t131_33, t131_34, t131_36, t131_37, t131_40, t131_42, t131_43, t131_44, t131_45, t131_46, t131_47, t131_48, t131_51, t131_53, t131_54, t131_57, t131_58, t131_59, t131_62, t131_64, t131_65, t131_66, t131_67, t131_68, t131_69, t131_71, t131_72, t131_75, t131_77, t131_78, t131_79, t131_82, t131_85, t131_86, t131_87, t131_90, t131_93, t131_94, lk_s, hp_get, hp_set, uH_at, uH_ne, uH_upd, uH_swap, iZ_add, iZ_sub, iZ_mul, iZ_neg, iZ_lt, iZ_le, iZ_eq, iZ_div, iZ_of, ix_Z, gZ_map, gZ_mapI, gZ_map', le_0, le_s, sZ_map, sZ_len, bZ_0, bZ_inj, bZ_t, bZ_f, nr_i, nr_0, nr_1, nr_b, ft_i, ft_b, ft_0, ft_1, zl_0, zl_1, zl_7, zl_52, zl_88, mF_len, mg_0, mg_1, mg_2, mg_3, mg_4, mg_5, mg_6, mg_7, mg_8, mg_9, mg_10, mg_11, mg_12, mg_13, mg_14, mg_15, mg_16, mg_17, mg_18, mg_19, mg_20, mg_21, mg_22, mg_23, mg_24, mg_25, mg_26, mg_27, mg_28, mg_29, mg_30, mg_31, mg_32, mg_33, mg_34, mg_35, mg_36, mg_37, mg_38, ms_0, ms_1, ms_2, ms_13, ms_14, ms_15, ms_16, ms_21, ms_22, ms_23, ms_24, ms_28, ms_36, ms_37, ms_38, st_at, st_ne, st_st, st_swap, l0, l2, l3, b1, -List.filter_filter, -List.getElem?_map, -List.getD_eq_getElem?_getD]
  | cons c cs ih =>
    intro k b Bd w lv hk hch hc9 hF hB hBM hc l0 l1 l2 l3
    simp only [List.length_cons] at hk
    have hkD : k < D.length := by omega
    have hcE : c < E.length := hc9 c List.mem_cons_self
    have hm : w 27 = .inr (8, mF m) := (hF 27 (by decide)).trans h.1
    have h29 : w 29 = cI 0 (x 29) := (hF 29 (by decide)).trans (r_ 29 (by decide) (by decide)).1
    have h33 : w 33 = cI 1 (x 33) := (hF 33 (by decide)).trans (r_ 33 (by decide) (by decide)).1
    have h43 : w 43 = cI 0 (x 43) := (hF 43 (by decide)).trans (r_ 43 (by decide) (by decide)).1
    have h44 : w 44 = cI 1 (x 44) := (hF 44 (by decide)).trans (r_ 44 (by decide) (by decide)).1
    have h45 : w 45 = cI 0 (x 45) := (hF 45 (by decide)).trans (r_ 45 (by decide) (by decide)).1
    have h51 : w 51 = cI 0 (x 51) := (hF 51 (by decide)).trans (r_ 51 (by decide) (by decide)).1
    have b1 : ¬ (D.length : Int) ≤ (k : Int) := by omega
    have ech : gZ (x 51) (k : Int) = (c : Int) := by
      have := hch 0 (by simp)
      rw [show (k : Int) + ((0 : Nat) : Int) = (k : Int) by omega] at this
      exact this
    have e8 := a8 k (by omega)
    obtain ⟨e9, s9⟩ := a9 k hkD
    have f8 := hW.2.1 c (by omega)
    have f9 := hW.2.2 c hcE
    have t9 := (gE.2.2 _ (lC_mem hcE)).1
    have kb : (k : Int) < 6 := by omega
    have cb : (c : Int) < 6 := by omega
    have C4 := c1_st (i := 4) (v := .int (iZ (c : Int))) rfl hc
    by_cases hsg : (lC D k).1 = (lC E c).1
    · have em : mtL D E k c b = mtT (lC D k).2 (lC E c).2 b := if_pos hsg
      have sD := stC_succ hkD
      have sE := stC_succ hcE
      have mD := stC_mono (C := D) (show k + 1 ≤ D.length from hkD)
      have mE := stC_mono (C := E) (show c + 1 ≤ E.length from hcE)
      rw [stC_all] at mD mE
      have hP := L1.seg n45 hkD
      rw [sD, show (0 : Int) + (stC D k : Int) = (stC D k : Int) by omega, show (0 : Int) + ((stC D k + (lC D k).2.length : Nat) : Int) = (stC D k : Int) + ((lC D k).2.length : Int) by omega] at hP
      have hQ := L2.seg n45 hcE
      rw [sE, show (88 : Int) + ((stC E c + (lC E c).2.length : Nat) : Int) = 88 + (stC E c : Int) + ((lC E c).2.length : Int) by omega] at hQ
      obtain ⟨w1, Bd1, z1, z2, z3, z4, z5⟩ := m128 (w := w) d hN hm h45 n45 hO.2.1 hB hBM (stC D k) (88 + (stC E c : Int)) (lC D k).2 (lC E c).2 (by omega) (by omega) hP hQ (by omega) (by omega) (gD.2.2 _ (lC_mem hkD)).2.1 (gE.2.2 _ (lC_mem hcE)).2.1 (fun s hs => by
        have := (gD.2.2 _ (lC_mem hkD)).2.2 s hs
        exact ⟨this.1, fun z => by have := this.2.2 z; omega⟩)
      have step : ∀ (v : Int), (∀ res, Gx q_k131 (d + 4) 57 ((4, .int (iZ (c : Int))) :: lv.filter (x_keep 4), [], hp w N) res → Gx q_k131 (d + 4) 23 (lv, [], hp w N) res) := fun v res hg => by
        refine Gx.run 60 Cs.tt (fun K _ => ?_) hg
        rw [← e9, ← f9] at hsg
        rw [← f9] at t9
        rcases t9 with t9 | t9
        · simp (disch := first | (refine c1_id ?_; assumption) | (refine c1_st rfl ?_; repeat (first | assumption | refine c1_st rfl ?_)) | omega) [nx_l, nx_r, nx_n, x_st, x_push, x_bin, x_div, x_un, x_dup, x_pop, x_dup2, x_goto, x_ifeq, x_ifne, x_iflt, x_ifge, x_ifgt, x_ifle, x_iceq, x_icne, x_iclt, x_icge, x_icgt, x_icle, x_ifnull, x_ifnonnull, x_ldi, x_lda, x_sti, x_sta, x_iinc, x_gf, x_pf, x_ald, x_ast, x_aln, x_len, x_cl_, x_cv, x_cs, x_rc, x_r0, x_isT, x_oi, x_rv, x_ri, x_ra, Value.category, t131_0, t131_1, t131_2, t131_3, t131_5, t131_8, t131_9, t131_12, t131_13, t131_14, t131_15, t131_18, t131_21, t131_22, t131_23, t131_24, t131_25, t131_28, t131_29, t131_32, t131_33, t131_34, t131_36, t131_37, t131_40, t131_42, t131_43, t131_44, t131_45, t131_46, t131_47, t131_48, t131_51, t131_53, t131_54, t131_57, t131_58, t131_59, t131_62, t131_64, t131_65, t131_66, t131_67, t131_68, t131_69, t131_71, t131_72, t131_75, t131_77, t131_78, t131_79, t131_82, t131_85, t131_86, t131_87, t131_90, t131_93, t131_94, lk_s, hp_get, hp_set, uH_at, uH_ne, uH_upd, uH_swap, iZ_add, iZ_sub, iZ_mul, iZ_neg, iZ_lt, iZ_le, iZ_eq, iZ_div, iZ_of, ix_Z, gZ_map, gZ_mapI, gZ_map', le_0, le_s, sZ_map, sZ_len, bZ_0, bZ_inj, bZ_t, bZ_f, nr_i, nr_0, nr_1, nr_b, ft_i, ft_b, ft_0, ft_1, zl_0, zl_1, zl_7, zl_52, zl_88, mF_len, mg_0, mg_1, mg_2, mg_3, mg_4, mg_5, mg_6, mg_7, mg_8, mg_9, mg_10, mg_11, mg_12, mg_13, mg_14, mg_15, mg_16, mg_17, mg_18, mg_19, mg_20, mg_21, mg_22, mg_23, mg_24, mg_25, mg_26, mg_27, mg_28, mg_29, mg_30, mg_31, mg_32, mg_33, mg_34, mg_35, mg_36, mg_37, mg_38, ms_0, ms_1, ms_2, ms_13, ms_14, ms_15, ms_16, ms_21, ms_22, ms_23, ms_24, ms_28, ms_36, ms_37, ms_38, st_at, st_ne, st_st, st_swap, l0, l1, l2, l3, hm, h51, h33, h44, b1, ech, hsg, t9, -List.filter_filter, -List.getElem?_map, -List.getD_eq_getElem?_getD]
        · simp (disch := first | (refine c1_id ?_; assumption) | (refine c1_st rfl ?_; repeat (first | assumption | refine c1_st rfl ?_)) | omega) [nx_l, nx_r, nx_n, x_st, x_push, x_bin, x_div, x_un, x_dup, x_pop, x_dup2, x_goto, x_ifeq, x_ifne, x_iflt, x_ifge, x_ifgt, x_ifle, x_iceq, x_icne, x_iclt, x_icge, x_icgt, x_icle, x_ifnull, x_ifnonnull, x_ldi, x_lda, x_sti, x_sta, x_iinc, x_gf, x_pf, x_ald, x_ast, x_aln, x_len, x_cl_, x_cv, x_cs, x_rc, x_r0, x_isT, x_oi, x_rv, x_ri, x_ra, Value.category, t131_0, t131_1, t131_2, t131_3, t131_5, t131_8, t131_9, t131_12, t131_13, t131_14, t131_15, t131_18, t131_21, t131_22, t131_23, t131_24, t131_25, t131_28, t131_29, t131_32, t131_33, t131_34, t131_36, t131_37, t131_40, t131_42, t131_43, t131_44, t131_45, t131_46, t131_47, t131_48, t131_51, t131_53, t131_54, t131_57, t131_58, t131_59, t131_62, t131_64, t131_65, t131_66, t131_67, t131_68, t131_69, t131_71, t131_72, t131_75, t131_77, t131_78, t131_79, t131_82, t131_85, t131_86, t131_87, t131_90, t131_93, t131_94, lk_s, hp_get, hp_set, uH_at, uH_ne, uH_upd, uH_swap, iZ_add, iZ_sub, iZ_mul, iZ_neg, iZ_lt, iZ_le, iZ_eq, iZ_div, iZ_of, ix_Z, gZ_map, gZ_mapI, gZ_map', le_0, le_s, sZ_map, sZ_len, bZ_0, bZ_inj, bZ_t, bZ_f, nr_i, nr_0, nr_1, nr_b, ft_i, ft_b, ft_0, ft_1, zl_0, zl_1, zl_7, zl_52, zl_88, mF_len, mg_0, mg_1, mg_2, mg_3, mg_4, mg_5, mg_6, mg_7, mg_8, mg_9, mg_10, mg_11, mg_12, mg_13, mg_14, mg_15, mg_16, mg_17, mg_18, mg_19, mg_20, mg_21, mg_22, mg_23, mg_24, mg_25, mg_26, mg_27, mg_28, mg_29, mg_30, mg_31, mg_32, mg_33, mg_34, mg_35, mg_36, mg_37, mg_38, ms_0, ms_1, ms_2, ms_13, ms_14, ms_15, ms_16, ms_21, ms_22, ms_23, ms_24, ms_28, ms_36, ms_37, ms_38, st_at, st_ne, st_st, st_swap, l0, l1, l2, l3, hm, h51, h33, h44, b1, ech, hsg, t9, -List.filter_filter, -List.getElem?_map, -List.getD_eq_getElem?_getD]
      have q0 : x_lk ((4, .int (iZ (c : Int))) :: lv.filter (x_keep 4)) 0 = some (.ref 30) := by rw [lk_s hc]; exact l0
      have q1 : x_lk ((4, .int (iZ (c : Int))) :: lv.filter (x_keep 4)) 1 = some (.int (iZ i)) := by rw [lk_s hc]; exact l1
      have q2 : x_lk ((4, .int (iZ (c : Int))) :: lv.filter (x_keep 4)) 2 = some (.int (iZ D.length)) := by rw [lk_s hc]; exact l2
      have q3 : x_lk ((4, .int (iZ (c : Int))) :: lv.filter (x_keep 4)) 3 = some (.int (iZ (k : Int))) := by rw [lk_s hc]; exact l3
      have q4 : x_lk ((4, .int (iZ (c : Int))) :: lv.filter (x_keep 4)) 4 = some (.int (iZ (c : Int))) := by rw [lk_s hc]; rfl
      cases hmt : mtT (lC D k).2 (lC E c).2 b with
      | none =>
        rw [hmt] at z5
        have ef : ftC (mtL D E) (c :: cs) k b = k := by
          unfold ftC
          rw [em, hmt]
        rw [ef]
        refine ⟨w1, Bd1, z1, z2, z3, step 0 _ (Gx.fin 60 z5 (fun K mm => ?_))⟩
        rw [← e8, ← f8] at mm
        have mm' : K 128 [.ref 30, .int (iZ (gZ (x 29) (7 * i + k))), .int (iZ (88 + gZ (x 43) c))] (hp w N) = some (some (.int (iZ 0)), hp w1 N) := mm
        simp (disch := first | (refine c1_id ?_; assumption) | (refine c1_st rfl ?_; repeat (first | assumption | refine c1_st rfl ?_)) | omega) [nx_l, nx_r, nx_n, x_st, x_push, x_bin, x_div, x_un, x_dup, x_pop, x_dup2, x_goto, x_ifeq, x_ifne, x_iflt, x_ifge, x_ifgt, x_ifle, x_iceq, x_icne, x_iclt, x_icge, x_icgt, x_icle, x_ifnull, x_ifnonnull, x_ldi, x_lda, x_sti, x_sta, x_iinc, x_gf, x_pf, x_ald, x_ast, x_aln, x_len, x_cl_, x_cv, x_cs, x_rc, x_r0, x_isT, x_oi, x_rv, x_ri, x_ra, Value.category, t131_0, t131_1, t131_2, t131_3, t131_5, t131_8, t131_9, t131_12, t131_13, t131_14, t131_15, t131_18, t131_21, t131_22, t131_23, t131_24, t131_25, t131_28, t131_29, t131_32, t131_33, t131_34, t131_36, t131_37, t131_40, t131_42, t131_43, t131_44, t131_45, t131_46, t131_47, t131_48, t131_51, t131_53, t131_54, t131_57, t131_58, t131_59, t131_62, t131_64, t131_65, t131_66, t131_67, t131_68, t131_69, t131_71, t131_72, t131_75, t131_77, t131_78, t131_79, t131_82, t131_85, t131_86, t131_87, t131_90, t131_93, t131_94, lk_s, hp_get, hp_set, uH_at, uH_ne, uH_upd, uH_swap, iZ_add, iZ_sub, iZ_mul, iZ_neg, iZ_lt, iZ_le, iZ_eq, iZ_div, iZ_of, ix_Z, gZ_map, gZ_mapI, gZ_map', le_0, le_s, sZ_map, sZ_len, bZ_0, bZ_inj, bZ_t, bZ_f, nr_i, nr_0, nr_1, nr_b, ft_i, ft_b, ft_0, ft_1, zl_0, zl_1, zl_7, zl_52, zl_88, mF_len, mg_0, mg_1, mg_2, mg_3, mg_4, mg_5, mg_6, mg_7, mg_8, mg_9, mg_10, mg_11, mg_12, mg_13, mg_14, mg_15, mg_16, mg_17, mg_18, mg_19, mg_20, mg_21, mg_22, mg_23, mg_24, mg_25, mg_26, mg_27, mg_28, mg_29, mg_30, mg_31, mg_32, mg_33, mg_34, mg_35, mg_36, mg_37, mg_38, ms_0, ms_1, ms_2, ms_13, ms_14, ms_15, ms_16, ms_21, ms_22, ms_23, ms_24, ms_28, ms_36, ms_37, ms_38, st_at, st_ne, st_st, st_swap, q0, q1, q2, q3, q4, hm, h29, h43, mm', -List.filter_filter, -List.getElem?_map, -List.getD_eq_getElem?_getD]
      | some b' =>
        rw [hmt] at z5
        have ef : ftC (mtL D E) (c :: cs) k b = ftC (mtL D E) cs (k + 1) b' := by
          conv => lhs; unfold ftC
          rw [em, hmt]
        rw [ef]
        have C3 := c1_st (i := 3) (v := .int (iZ ((k : Int) + 1))) rfl C4
        obtain ⟨w2, Bd2, y1, y2, y3, y4⟩ := ih (k + 1) b' Bd1 w1 _ (by omega) (fun j hj => by
          have := hch (j + 1) (by simp; omega)
          rw [show (k : Int) + ((j + 1 : Nat) : Int) = ((k + 1 : Nat) : Int) + (j : Int) by omega] at this
          exact this) (fun z hz => hc9 z (List.mem_cons_of_mem _ hz)) (hF.tr z1) z2 (z4 b' hmt) C3 (by rw [lk_s C4]; exact q0) (by rw [lk_s C4]; exact q1) (by rw [lk_s C4]; exact q2) (by rw [lk_s C4]; rfl)
        refine ⟨w2, Bd2, z1.tr y1, y2, y3, step 0 _ (Gx.run 60 z5 (fun K mm => ?_) y4)⟩
        rw [← e8, ← f8] at mm
        have mm' : K 128 [.ref 30, .int (iZ (gZ (x 29) (7 * i + k))), .int (iZ (88 + gZ (x 43) c))] (hp w N) = some (some (.int (iZ 1)), hp w1 N) := mm
        simp (disch := first | (refine c1_id ?_; assumption) | (refine c1_st rfl ?_; repeat (first | assumption | refine c1_st rfl ?_)) | omega) [nx_l, nx_r, nx_n, x_st, x_push, x_bin, x_div, x_un, x_dup, x_pop, x_dup2, x_goto, x_ifeq, x_ifne, x_iflt, x_ifge, x_ifgt, x_ifle, x_iceq, x_icne, x_iclt, x_icge, x_icgt, x_icle, x_ifnull, x_ifnonnull, x_ldi, x_lda, x_sti, x_sta, x_iinc, x_gf, x_pf, x_ald, x_ast, x_aln, x_len, x_cl_, x_cv, x_cs, x_rc, x_r0, x_isT, x_oi, x_rv, x_ri, x_ra, Value.category, t131_0, t131_1, t131_2, t131_3, t131_5, t131_8, t131_9, t131_12, t131_13, t131_14, t131_15, t131_18, t131_21, t131_22, t131_23, t131_24, t131_25, t131_28, t131_29, t131_32, t131_33, t131_34, t131_36, t131_37, t131_40, t131_42, t131_43, t131_44, t131_45, t131_46, t131_47, t131_48, t131_51, t131_53, t131_54, t131_57, t131_58, t131_59, t131_62, t131_64, t131_65, t131_66, t131_67, t131_68, t131_69, t131_71, t131_72, t131_75, t131_77, t131_78, t131_79, t131_82, t131_85, t131_86, t131_87, t131_90, t131_93, t131_94, lk_s, hp_get, hp_set, uH_at, uH_ne, uH_upd, uH_swap, iZ_add, iZ_sub, iZ_mul, iZ_neg, iZ_lt, iZ_le, iZ_eq, iZ_div, iZ_of, ix_Z, gZ_map, gZ_mapI, gZ_map', le_0, le_s, sZ_map, sZ_len, bZ_0, bZ_inj, bZ_t, bZ_f, nr_i, nr_0, nr_1, nr_b, ft_i, ft_b, ft_0, ft_1, zl_0, zl_1, zl_7, zl_52, zl_88, mF_len, mg_0, mg_1, mg_2, mg_3, mg_4, mg_5, mg_6, mg_7, mg_8, mg_9, mg_10, mg_11, mg_12, mg_13, mg_14, mg_15, mg_16, mg_17, mg_18, mg_19, mg_20, mg_21, mg_22, mg_23, mg_24, mg_25, mg_26, mg_27, mg_28, mg_29, mg_30, mg_31, mg_32, mg_33, mg_34, mg_35, mg_36, mg_37, mg_38, ms_0, ms_1, ms_2, ms_13, ms_14, ms_15, ms_16, ms_21, ms_22, ms_23, ms_24, ms_28, ms_36, ms_37, ms_38, st_at, st_ne, st_st, st_swap, q0, q1, q2, q3, q4, hm, h29, h43, mm', -List.filter_filter, -List.getElem?_map, -List.getD_eq_getElem?_getD]
    · have em : mtL D E k c b = none := if_neg hsg
      have ef : ftC (mtL D E) (c :: cs) k b = k := by
        unfold ftC
        rw [em]
      rw [ef]
      refine ⟨w, Bd, Fr.rf _ _, hB, hBM.1, Gx.fin 60 Cs.tt (fun K _ => ?_)⟩
      rw [← e9, ← f9] at hsg
      rw [← f9] at t9
      rw [← e9] at s9
      rcases t9 with t9 | t9 <;> rcases s9 with s9 | s9
      · exact absurd (s9.trans t9.symm) hsg
      · simp (disch := first | (refine c1_id ?_; assumption) | (refine c1_st rfl ?_; repeat (first | assumption | refine c1_st rfl ?_)) | omega) [nx_l, nx_r, nx_n, x_st, x_push, x_bin, x_div, x_un, x_dup, x_pop, x_dup2, x_goto, x_ifeq, x_ifne, x_iflt, x_ifge, x_ifgt, x_ifle, x_iceq, x_icne, x_iclt, x_icge, x_icgt, x_icle, x_ifnull, x_ifnonnull, x_ldi, x_lda, x_sti, x_sta, x_iinc, x_gf, x_pf, x_ald, x_ast, x_aln, x_len, x_cl_, x_cv, x_cs, x_rc, x_r0, x_isT, x_oi, x_rv, x_ri, x_ra, Value.category, t131_0, t131_1, t131_2, t131_3, t131_5, t131_8, t131_9, t131_12, t131_13, t131_14, t131_15, t131_18, t131_21, t131_22, t131_23, t131_24, t131_25, t131_28, t131_29, t131_32, t131_33, t131_34, t131_36, t131_37, t131_40, t131_42, t131_43, t131_44, t131_45, t131_46, t131_47, t131_48, t131_51, t131_53, t131_54, t131_57, t131_58, t131_59, t131_62, t131_64, t131_65, t131_66, t131_67, t131_68, t131_69, t131_71, t131_72, t131_75, t131_77, t131_78, t131_79, t131_82, t131_85, t131_86, t131_87, t131_90, t131_93, t131_94, lk_s, hp_get, hp_set, uH_at, uH_ne, uH_upd, uH_swap, iZ_add, iZ_sub, iZ_mul, iZ_neg, iZ_lt, iZ_le, iZ_eq, iZ_div, iZ_of, ix_Z, gZ_map, gZ_mapI, gZ_map', le_0, le_s, sZ_map, sZ_len, bZ_0, bZ_inj, bZ_t, bZ_f, nr_i, nr_0, nr_1, nr_b, ft_i, ft_b, ft_0, ft_1, zl_0, zl_1, zl_7, zl_52, zl_88, mF_len, mg_0, mg_1, mg_2, mg_3, mg_4, mg_5, mg_6, mg_7, mg_8, mg_9, mg_10, mg_11, mg_12, mg_13, mg_14, mg_15, mg_16, mg_17, mg_18, mg_19, mg_20, mg_21, mg_22, mg_23, mg_24, mg_25, mg_26, mg_27, mg_28, mg_29, mg_30, mg_31, mg_32, mg_33, mg_34, mg_35, mg_36, mg_37, mg_38, ms_0, ms_1, ms_2, ms_13, ms_14, ms_15, ms_16, ms_21, ms_22, ms_23, ms_24, ms_28, ms_36, ms_37, ms_38, st_at, st_ne, st_st, st_swap, l0, l1, l2, l3, hm, h51, h33, h44, b1, ech, t9, s9, -List.filter_filter, -List.getElem?_map, -List.getD_eq_getElem?_getD]
      · simp (disch := first | (refine c1_id ?_; assumption) | (refine c1_st rfl ?_; repeat (first | assumption | refine c1_st rfl ?_)) | omega) [nx_l, nx_r, nx_n, x_st, x_push, x_bin, x_div, x_un, x_dup, x_pop, x_dup2, x_goto, x_ifeq, x_ifne, x_iflt, x_ifge, x_ifgt, x_ifle, x_iceq, x_icne, x_iclt, x_icge, x_icgt, x_icle, x_ifnull, x_ifnonnull, x_ldi, x_lda, x_sti, x_sta, x_iinc, x_gf, x_pf, x_ald, x_ast, x_aln, x_len, x_cl_, x_cv, x_cs, x_rc, x_r0, x_isT, x_oi, x_rv, x_ri, x_ra, Value.category, t131_0, t131_1, t131_2, t131_3, t131_5, t131_8, t131_9, t131_12, t131_13, t131_14, t131_15, t131_18, t131_21, t131_22, t131_23, t131_24, t131_25, t131_28, t131_29, t131_32, t131_33, t131_34, t131_36, t131_37, t131_40, t131_42, t131_43, t131_44, t131_45, t131_46, t131_47, t131_48, t131_51, t131_53, t131_54, t131_57, t131_58, t131_59, t131_62, t131_64, t131_65, t131_66, t131_67, t131_68, t131_69, t131_71, t131_72, t131_75, t131_77, t131_78, t131_79, t131_82, t131_85, t131_86, t131_87, t131_90, t131_93, t131_94, lk_s, hp_get, hp_set, uH_at, uH_ne, uH_upd, uH_swap, iZ_add, iZ_sub, iZ_mul, iZ_neg, iZ_lt, iZ_le, iZ_eq, iZ_div, iZ_of, ix_Z, gZ_map, gZ_mapI, gZ_map', le_0, le_s, sZ_map, sZ_len, bZ_0, bZ_inj, bZ_t, bZ_f, nr_i, nr_0, nr_1, nr_b, ft_i, ft_b, ft_0, ft_1, zl_0, zl_1, zl_7, zl_52, zl_88, mF_len, mg_0, mg_1, mg_2, mg_3, mg_4, mg_5, mg_6, mg_7, mg_8, mg_9, mg_10, mg_11, mg_12, mg_13, mg_14, mg_15, mg_16, mg_17, mg_18, mg_19, mg_20, mg_21, mg_22, mg_23, mg_24, mg_25, mg_26, mg_27, mg_28, mg_29, mg_30, mg_31, mg_32, mg_33, mg_34, mg_35, mg_36, mg_37, mg_38, ms_0, ms_1, ms_2, ms_13, ms_14, ms_15, ms_16, ms_21, ms_22, ms_23, ms_24, ms_28, ms_36, ms_37, ms_38, st_at, st_ne, st_st, st_swap, l0, l1, l2, l3, hm, h51, h33, h44, b1, ech, t9, s9, -List.filter_filter, -List.getElem?_map, -List.getD_eq_getElem?_getD]
      · exact absurd (s9.trans t9.symm) hsg
theorem l131_2 (d : Nat) (hN : 53 ≤ N) (hm : w 27 = .inr (8, mF m)) : ∀ (r : Nat) (k : Int) (Q : List Int) (lv : xL), Q.length = 52 → k + r = 52 → 0 ≤ k → c1 lv → x_lk lv 0 = some (.ref 30) → x_lk lv 3 = some (.int (iZ k)) → ∃ lv', c1 lv' ∧ (∀ j, j ≠ 3 → x_lk lv' j = x_lk lv j) ∧ ∀ res, Gx q_k131 d 21 (lv', [], hp (uH w 46 (cI 0 (cpl (0) (fun _ => -1) r k Q))) N) res →
    Gx q_k131 d 2 (lv, [], hp (uH w 46 (cI 0 Q)) N) res := by
  intro r
  induction r with
  | zero =>
    intro k Q lv hQ hk h0 hc l0 l1 
    refine ⟨lv, hc, fun _ _ => rfl, fun res hcont => ?_⟩
    refine Gx.run 60 Cs.tt (fun C _ => ?_) hcont
    have b1 : 52 ≤ k := by omega
    simp (disch := first | (refine c1_id ?_; assumption) | (refine c1_st rfl ?_; repeat (first | assumption | refine c1_st rfl ?_)) | omega) [nx_l, nx_r, nx_n, x_st, x_push, x_bin, x_div, x_un, x_dup, x_pop, x_dup2, x_goto, x_ifeq, x_ifne, x_iflt, x_ifge, x_ifgt, x_ifle, x_iceq, x_icne, x_iclt, x_icge, x_icgt, x_icle, x_ifnull, x_ifnonnull, x_ldi, x_lda, x_sti, x_sta, x_iinc, x_gf, x_pf, x_ald, x_ast, x_aln, x_len, x_cl_, x_cv, x_cs, x_rc, x_r0, x_isT, x_oi, x_rv, x_ri, x_ra, Value.category, t131_0, t131_1, t131_2, t131_3, t131_5, t131_8, t131_9, t131_12, t131_13, t131_14, t131_15, t131_18, t131_21, t131_22, t131_23, t131_24, t131_25, t131_28, t131_29, t131_32, t131_33, t131_34, t131_36, t131_37, t131_40, t131_42, t131_43, t131_44, t131_45, t131_46, t131_47, t131_48, t131_51, t131_53, t131_54, t131_57, t131_58, t131_59, t131_62, t131_64, t131_65, t131_66, t131_67, t131_68, t131_69, t131_71, t131_72, t131_75, t131_77, t131_78, t131_79, t131_82, t131_85, t131_86, t131_87, t131_90, t131_93, t131_94, lk_s, hp_get, hp_set, uH_at, uH_ne, uH_upd, uH_swap, iZ_add, iZ_sub, iZ_mul, iZ_neg, iZ_lt, iZ_le, iZ_eq, iZ_div, iZ_of, ix_Z, gZ_map, gZ_mapI, gZ_map', le_0, le_s, sZ_map, sZ_len, bZ_0, bZ_inj, bZ_t, bZ_f, nr_i, nr_0, nr_1, nr_b, ft_i, ft_b, ft_0, ft_1, zl_0, zl_1, zl_7, zl_52, zl_88, mF_len, mg_0, mg_1, mg_2, mg_3, mg_4, mg_5, mg_6, mg_7, mg_8, mg_9, mg_10, mg_11, mg_12, mg_13, mg_14, mg_15, mg_16, mg_17, mg_18, mg_19, mg_20, mg_21, mg_22, mg_23, mg_24, mg_25, mg_26, mg_27, mg_28, mg_29, mg_30, mg_31, mg_32, mg_33, mg_34, mg_35, mg_36, mg_37, mg_38, ms_0, ms_1, ms_2, ms_13, ms_14, ms_15, ms_16, ms_21, ms_22, ms_23, ms_24, ms_28, ms_36, ms_37, ms_38, st_at, st_ne, st_st, st_swap, l0, l1, hm, b1, cpl, -List.filter_filter, -List.getElem?_map, -List.getD_eq_getElem?_getD]
  | succ r ih =>
    intro k Q lv hQ hk h0 hc l0 l1 
    obtain ⟨lv', h1, h2, h3⟩ := ih (k + 1) (sZ Q (0 + k) ((fun _ => -1) k)) (((3 : Nat), .int (iZ (k + 1))) :: List.filter (x_keep 3) lv) (by rw [sZ_len]; exact hQ) (by omega) (by omega) (c1_st rfl hc) (by rw [lk_s hc]; exact l0) (by rw [lk_s hc]; rfl) 
    refine ⟨lv', h1, fun j hj => by rw [h2 j hj, lk_s hc, if_neg (Ne.symm hj)], fun res hcont => ?_⟩
    refine Gx.run 60 Cs.tt (fun C _ => ?_) (h3 res hcont)
    have b1 : ¬ 52 ≤ k := by omega
    simp (disch := first | (refine c1_id ?_; assumption) | (refine c1_st rfl ?_; repeat (first | assumption | refine c1_st rfl ?_)) | omega) [nx_l, nx_r, nx_n, x_st, x_push, x_bin, x_div, x_un, x_dup, x_pop, x_dup2, x_goto, x_ifeq, x_ifne, x_iflt, x_ifge, x_ifgt, x_ifle, x_iceq, x_icne, x_iclt, x_icge, x_icgt, x_icle, x_ifnull, x_ifnonnull, x_ldi, x_lda, x_sti, x_sta, x_iinc, x_gf, x_pf, x_ald, x_ast, x_aln, x_len, x_cl_, x_cv, x_cs, x_rc, x_r0, x_isT, x_oi, x_rv, x_ri, x_ra, Value.category, t131_0, t131_1, t131_2, t131_3, t131_5, t131_8, t131_9, t131_12, t131_13, t131_14, t131_15, t131_18, t131_21, t131_22, t131_23, t131_24, t131_25, t131_28, t131_29, t131_32, t131_33, t131_34, t131_36, t131_37, t131_40, t131_42, t131_43, t131_44, t131_45, t131_46, t131_47, t131_48, t131_51, t131_53, t131_54, t131_57, t131_58, t131_59, t131_62, t131_64, t131_65, t131_66, t131_67, t131_68, t131_69, t131_71, t131_72, t131_75, t131_77, t131_78, t131_79, t131_82, t131_85, t131_86, t131_87, t131_90, t131_93, t131_94, lk_s, hp_get, hp_set, uH_at, uH_ne, uH_upd, uH_swap, iZ_add, iZ_sub, iZ_mul, iZ_neg, iZ_lt, iZ_le, iZ_eq, iZ_div, iZ_of, ix_Z, gZ_map, gZ_mapI, gZ_map', le_0, le_s, sZ_map, sZ_len, bZ_0, bZ_inj, bZ_t, bZ_f, nr_i, nr_0, nr_1, nr_b, ft_i, ft_b, ft_0, ft_1, zl_0, zl_1, zl_7, zl_52, zl_88, mF_len, mg_0, mg_1, mg_2, mg_3, mg_4, mg_5, mg_6, mg_7, mg_8, mg_9, mg_10, mg_11, mg_12, mg_13, mg_14, mg_15, mg_16, mg_17, mg_18, mg_19, mg_20, mg_21, mg_22, mg_23, mg_24, mg_25, mg_26, mg_27, mg_28, mg_29, mg_30, mg_31, mg_32, mg_33, mg_34, mg_35, mg_36, mg_37, mg_38, ms_0, ms_1, ms_2, ms_13, ms_14, ms_15, ms_16, ms_21, ms_22, ms_23, ms_24, ms_28, ms_36, ms_37, ms_38, st_at, st_ne, st_st, st_swap, l0, l1, hm, b1, -List.filter_filter, -List.getElem?_map, -List.getD_eq_getElem?_getD]

theorem m131 (d : Nat) (hN : 53 ≤ N) (h : RO w m x) (hS : SPc x i D E) (cs : List Nat) (hl : cs.length = D.length) (hch : CH (x 51) cs) (hc9 : ∀ c ∈ cs, c < E.length) : ∃ (w' : Nat → xC) (Bd' : List Int), RO w' m (ux x 46 Bd') ∧ Fr [46] w w' ∧ Xc (d + 5) 131 [.ref 30, .int (iZ i), .int (iZ D.length)] (hp w N) (some (.int (iZ (ftC (mtL D E) cs 0 (fun _ => []) : Nat))), hp w' N) := by
  have hm := h.1
  have h46 : w 46 = cI 0 (x 46) := (h.2 46 (by decide) (by decide)).1
  have n46 : (x 46).length = 52 := (h.2 46 (by decide) (by decide)).2
  have hc : c1 (lv_args 0 [.ref 30, .int (iZ i), .int (iZ D.length)]) := by simp [c1, lv_args, Value.category]
  have l0 : x_lk (lv_args 0 [.ref 30, .int (iZ i), .int (iZ D.length)]) 0 = some (.ref 30) := rfl
  have l1 : x_lk (lv_args 0 [.ref 30, .int (iZ i), .int (iZ D.length)]) 1 = some (.int (iZ i)) := rfl
  have l2 : x_lk (lv_args 0 [.ref 30, .int (iZ i), .int (iZ D.length)]) 2 = some (.int (iZ D.length)) := rfl
  have C3 := c1_st (i := 3) (v := .int (iZ 0)) rfl hc
  obtain ⟨lvA, hA, sA, gA⟩ := l131_2 (d + 4) hN hm 52 0 (x 46) _ n46 (by omega) (by omega) C3 (by rw [lk_s hc]; exact l0) (by rw [lk_s hc]; rfl)
  rw [uH_self h46] at gA
  obtain ⟨Q, hQ⟩ : ∃ Q, Q = cpl 0 (fun _ => -1) 52 0 (x 46) := ⟨_, rfl⟩
  have nQ : Q.length = 52 := by rw [hQ, cpl_len]; exact n46
  have vQ : ∀ v, 0 ≤ v → v < 52 → gZ Q v = -1 := fun v v0 v1 => by rw [hQ, cpl_at (by omega) (by omega) v0, if_pos (by omega)]
  rw [← hQ] at gA
  obtain ⟨w1, hw1⟩ : ∃ w1, w1 = uH w 46 (cI 0 Q) := ⟨_, rfl⟩
  rw [← hw1] at gA
  have F1 : Fr [46] w w1 := by rw [hw1]; exact (Fr.rf _ _).up (by decide)
  have hB1 : w1 46 = cI 0 Q := by rw [hw1, uH_at]
  have BM1 : BM (x 45) Q (fun _ => []) := ⟨nQ, fun v v0 v1 => by
    rw [vQ v v0 v1]
    exact ⟨by omega, by omega, fun _ => rfl, fun z => absurd z (by decide)⟩⟩
  have A3 := c1_st (i := 3) (v := .int (iZ 0)) rfl hA
  have a0 : x_lk lvA 0 = some (.ref 30) := by rw [sA 0 (by decide), lk_s hc]; exact l0
  have a1 : x_lk lvA 1 = some (.int (iZ i)) := by rw [sA 1 (by decide), lk_s hc]; exact l1
  have a2 : x_lk lvA 2 = some (.int (iZ D.length)) := by rw [sA 2 (by decide), lk_s hc]; exact l2
  obtain ⟨w2, Bd2, y1, y2, y3, y4⟩ := l131 d hN h hS cs 0 (fun _ => []) Q w1 _ (by omega) (fun j hj => by
    rw [show ((0 : Nat) : Int) + (j : Int) = (j : Int) by omega]
    exact hch j hj) hc9 F1 hB1 BM1 A3 (by rw [lk_s hA]; exact a0) (by rw [lk_s hA]; exact a1) (by rw [lk_s hA]; exact a2) (by rw [lk_s hA]; rfl)
  have F2 := F1.tr y1
  have R2 : RO w2 m (ux x 46 Bd2) := by
    refine ⟨(F2 27 (by decide)).trans hm, fun j j0 j1 => ?_⟩
    by_cases e : j = 46
    · subst e
      rw [ux_at]
      exact ⟨y2, y3⟩
    · rw [ux_ne e, F2 j (by rw [List.mem_singleton]; exact e)]
      exact h.2 j j0 j1
  refine ⟨w2, Bd2, R2, F2, Xc.of rfl (by simp [lg_sl, Value.category]) (Gx.run 20 Cs.tt (fun K _ => ?_) (gA _ (Gx.run 20 Cs.tt (fun K _ => ?_) y4))) (h.le R2 (fun j hj => ?_))⟩
  · generalize lv_args 0 [.ref 30, .int (iZ i), .int (iZ D.length)] = lv0 at hc l0 l1 l2
    simp (disch := first | (refine c1_id ?_; assumption) | (refine c1_st rfl ?_; repeat (first | assumption | refine c1_st rfl ?_)) | omega) [nx_l, nx_r, nx_n, x_st, x_push, x_bin, x_div, x_un, x_dup, x_pop, x_dup2, x_goto, x_ifeq, x_ifne, x_iflt, x_ifge, x_ifgt, x_ifle, x_iceq, x_icne, x_iclt, x_icge, x_icgt, x_icle, x_ifnull, x_ifnonnull, x_ldi, x_lda, x_sti, x_sta, x_iinc, x_gf, x_pf, x_ald, x_ast, x_aln, x_len, x_cl_, x_cv, x_cs, x_rc, x_r0, x_isT, x_oi, x_rv, x_ri, x_ra, Value.category, t131_0, t131_1, t131_2, t131_3, t131_5, t131_8, t131_9, t131_12, t131_13, t131_14, t131_15, t131_18, t131_21, t131_22, t131_23, t131_24, t131_25, t131_28, t131_29, t131_32, t131_33, t131_34, t131_36, t131_37, t131_40, t131_42, t131_43, t131_44, t131_45, t131_46, t131_47, t131_48, t131_51, t131_53, t131_54, t131_57, t131_58, t131_59, t131_62, t131_64, t131_65, t131_66, t131_67, t131_68, t131_69, t131_71, t131_72, t131_75, t131_77, t131_78, t131_79, t131_82, t131_85, t131_86, t131_87, t131_90, t131_93, t131_94, lk_s, hp_get, hp_set, uH_at, uH_ne, uH_upd, uH_swap, iZ_add, iZ_sub, iZ_mul, iZ_neg, iZ_lt, iZ_le, iZ_eq, iZ_div, iZ_of, ix_Z, gZ_map, gZ_mapI, gZ_map', le_0, le_s, sZ_map, sZ_len, bZ_0, bZ_inj, bZ_t, bZ_f, nr_i, nr_0, nr_1, nr_b, ft_i, ft_b, ft_0, ft_1, zl_0, zl_1, zl_7, zl_52, zl_88, mF_len, mg_0, mg_1, mg_2, mg_3, mg_4, mg_5, mg_6, mg_7, mg_8, mg_9, mg_10, mg_11, mg_12, mg_13, mg_14, mg_15, mg_16, mg_17, mg_18, mg_19, mg_20, mg_21, mg_22, mg_23, mg_24, mg_25, mg_26, mg_27, mg_28, mg_29, mg_30, mg_31, mg_32, mg_33, mg_34, mg_35, mg_36, mg_37, mg_38, ms_0, ms_1, ms_2, ms_13, ms_14, ms_15, ms_16, ms_21, ms_22, ms_23, ms_24, ms_28, ms_36, ms_37, ms_38, st_at, st_ne, st_st, st_swap, l0, -List.filter_filter, -List.getElem?_map, -List.getD_eq_getElem?_getD]
  · simp (disch := first | (refine c1_id ?_; assumption) | (refine c1_st rfl ?_; repeat (first | assumption | refine c1_st rfl ?_)) | omega) [nx_l, nx_r, nx_n, x_st, x_push, x_bin, x_div, x_un, x_dup, x_pop, x_dup2, x_goto, x_ifeq, x_ifne, x_iflt, x_ifge, x_ifgt, x_ifle, x_iceq, x_icne, x_iclt, x_icge, x_icgt, x_icle, x_ifnull, x_ifnonnull, x_ldi, x_lda, x_sti, x_sta, x_iinc, x_gf, x_pf, x_ald, x_ast, x_aln, x_len, x_cl_, x_cv, x_cs, x_rc, x_r0, x_isT, x_oi, x_rv, x_ri, x_ra, Value.category, t131_0, t131_1, t131_2, t131_3, t131_5, t131_8, t131_9, t131_12, t131_13, t131_14, t131_15, t131_18, t131_21, t131_22, t131_23, t131_24, t131_25, t131_28, t131_29, t131_32, t131_33, t131_34, t131_36, t131_37, t131_40, t131_42, t131_43, t131_44, t131_45, t131_46, t131_47, t131_48, t131_51, t131_53, t131_54, t131_57, t131_58, t131_59, t131_62, t131_64, t131_65, t131_66, t131_67, t131_68, t131_69, t131_71, t131_72, t131_75, t131_77, t131_78, t131_79, t131_82, t131_85, t131_86, t131_87, t131_90, t131_93, t131_94, lk_s, hp_get, hp_set, uH_at, uH_ne, uH_upd, uH_swap, iZ_add, iZ_sub, iZ_mul, iZ_neg, iZ_lt, iZ_le, iZ_eq, iZ_div, iZ_of, ix_Z, gZ_map, gZ_mapI, gZ_map', le_0, le_s, sZ_map, sZ_len, bZ_0, bZ_inj, bZ_t, bZ_f, nr_i, nr_0, nr_1, nr_b, ft_i, ft_b, ft_0, ft_1, zl_0, zl_1, zl_7, zl_52, zl_88, mF_len, mg_0, mg_1, mg_2, mg_3, mg_4, mg_5, mg_6, mg_7, mg_8, mg_9, mg_10, mg_11, mg_12, mg_13, mg_14, mg_15, mg_16, mg_17, mg_18, mg_19, mg_20, mg_21, mg_22, mg_23, mg_24, mg_25, mg_26, mg_27, mg_28, mg_29, mg_30, mg_31, mg_32, mg_33, mg_34, mg_35, mg_36, mg_37, mg_38, ms_0, ms_1, ms_2, ms_13, ms_14, ms_15, ms_16, ms_21, ms_22, ms_23, ms_24, ms_28, ms_36, ms_37, ms_38, st_at, st_ne, st_st, st_swap, a0, -List.filter_filter, -List.getElem?_map, -List.getD_eq_getElem?_getD]
  · rw [F2 j (by rw [List.mem_singleton]; omega)]
    exact Nat.le_refl _
end FI
