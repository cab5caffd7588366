/-! the class: the text of a clause -/
theorem f89_0 : x_fetch q_k89 0 = x_lda 1 0 := rfl
theorem t89_0 (C : xF) (s n : Nat) (z : xS) : x_to q_k89 C s (n + 1) 0 z = x_nx q_k89 C s n ((x_lda 1 0) C z) := x_to_at f89_0 C s n z
theorem f89_1 : x_fetch q_k89 1 = x_gf 4 4 3 := rfl
theorem t89_1 (C : xF) (s n : Nat) (z : xS) : x_to q_k89 C s (n + 1) 1 z = x_nx q_k89 C s n ((x_gf 4 4 3) C z) := x_to_at f89_1 C s n z
theorem f89_4 : x_fetch q_k89 4 = x_st (x_ifne 10 7) := rfl
theorem t89_4 (C : xF) (s n : Nat) (z : xS) : x_to q_k89 C s (n + 1) 4 z = x_nx q_k89 C s n ((x_st (x_ifne 10 7)) C z) := x_to_at f89_4 C s n z
theorem f89_7 : x_fetch q_k89 7 = x_st (x_push 9 (.ref 0)) := rfl
theorem t89_7 (C : xF) (s n : Nat) (z : xS) : x_to q_k89 C s (n + 1) 7 z = x_nx q_k89 C s n ((x_st (x_push 9 (.ref 0))) C z) := x_to_at f89_7 C s n z
theorem f89_9 : x_fetch q_k89 9 = x_ra := rfl
theorem t89_9 (C : xF) (s n : Nat) (z : xS) : x_to q_k89 C s (n + 1) 9 z = x_nx q_k89 C s n ((x_ra) C z) := x_to_at f89_9 C s n z
theorem f89_10 : x_fetch q_k89 10 = x_nw_ 13 14 [.null, .int 0, .int 0, .int 0] := rfl
theorem t89_10 (C : xF) (s n : Nat) (z : xS) : x_to q_k89 C s (n + 1) 10 z = x_nx q_k89 C s n ((x_nw_ 13 14 [.null, .int 0, .int 0, .int 0]) C z) := x_to_at f89_10 C s n z
theorem f89_13 : x_fetch q_k89 13 = x_st (x_dup 14) := rfl
theorem t89_13 (C : xF) (s n : Nat) (z : xS) : x_to q_k89 C s (n + 1) 13 z = x_nx q_k89 C s n ((x_st (x_dup 14)) C z) := x_to_at f89_13 C s n z
theorem f89_14 : x_fetch q_k89 14 = x_cs 17 157 1 := rfl
theorem t89_14 (C : xF) (s n : Nat) (z : xS) : x_to q_k89 C s (n + 1) 14 z = x_nx q_k89 C s n ((x_cs 17 157 1) C z) := x_to_at f89_14 C s n z
theorem f89_17 : x_fetch q_k89 17 = x_sta 18 1 := rfl
theorem t89_17 (C : xF) (s n : Nat) (z : xS) : x_to q_k89 C s (n + 1) 17 z = x_nx q_k89 C s n ((x_sta 18 1) C z) := x_to_at f89_17 C s n z
theorem f89_18 : x_fetch q_k89 18 = x_st (x_push 19 (.int (0))) := rfl
theorem t89_18 (C : xF) (s n : Nat) (z : xS) : x_to q_k89 C s (n + 1) 18 z = x_nx q_k89 C s n ((x_st (x_push 19 (.int (0)))) C z) := x_to_at f89_18 C s n z
theorem f89_19 : x_fetch q_k89 19 = x_sti 20 2 := rfl
theorem t89_19 (C : xF) (s n : Nat) (z : xS) : x_to q_k89 C s (n + 1) 19 z = x_nx q_k89 C s n ((x_sti 20 2) C z) := x_to_at f89_19 C s n z
theorem f89_20 : x_fetch q_k89 20 = x_ldi 21 2 := rfl
theorem t89_20 (C : xF) (s n : Nat) (z : xS) : x_to q_k89 C s (n + 1) 20 z = x_nx q_k89 C s n ((x_ldi 21 2) C z) := x_to_at f89_20 C s n z
theorem f89_21 : x_fetch q_k89 21 = x_lda 22 0 := rfl
theorem t89_21 (C : xF) (s n : Nat) (z : xS) : x_to q_k89 C s (n + 1) 21 z = x_nx q_k89 C s n ((x_lda 22 0) C z) := x_to_at f89_21 C s n z
theorem f89_22 : x_fetch q_k89 22 = x_gf 25 4 3 := rfl
theorem t89_22 (C : xF) (s n : Nat) (z : xS) : x_to q_k89 C s (n + 1) 22 z = x_nx q_k89 C s n ((x_gf 25 4 3) C z) := x_to_at f89_22 C s n z
theorem f89_25 : x_fetch q_k89 25 = x_st (x_icge 100 28) := rfl
theorem t89_25 (C : xF) (s n : Nat) (z : xS) : x_to q_k89 C s (n + 1) 25 z = x_nx q_k89 C s n ((x_st (x_icge 100 28)) C z) := x_to_at f89_25 C s n z
theorem f89_28 : x_fetch q_k89 28 = x_ldi 29 2 := rfl
theorem t89_28 (C : xF) (s n : Nat) (z : xS) : x_to q_k89 C s (n + 1) 28 z = x_nx q_k89 C s n ((x_ldi 29 2) C z) := x_to_at f89_28 C s n z
theorem f89_29 : x_fetch q_k89 29 = x_st (x_ifle 39 32) := rfl
theorem t89_29 (C : xF) (s n : Nat) (z : xS) : x_to q_k89 C s (n + 1) 29 z = x_nx q_k89 C s n ((x_st (x_ifle 39 32)) C z) := x_to_at f89_29 C s n z
theorem f89_32 : x_fetch q_k89 32 = x_lda 33 1 := rfl
theorem t89_32 (C : xF) (s n : Nat) (z : xS) : x_to q_k89 C s (n + 1) 32 z = x_nx q_k89 C s n ((x_lda 33 1) C z) := x_to_at f89_32 C s n z
theorem f89_33 : x_fetch q_k89 33 = x_st (x_push 35 (.int (124))) := rfl
theorem t89_33 (C : xF) (s n : Nat) (z : xS) : x_to q_k89 C s (n + 1) 33 z = x_nx q_k89 C s n ((x_st (x_push 35 (.int (124)))) C z) := x_to_at f89_33 C s n z
theorem f89_35 : x_fetch q_k89 35 = x_cv 38 159 2 14 := rfl
theorem t89_35 (C : xF) (s n : Nat) (z : xS) : x_to q_k89 C s (n + 1) 35 z = x_nx q_k89 C s n ((x_cv 38 159 2 14) C z) := x_to_at f89_35 C s n z
theorem f89_38 : x_fetch q_k89 38 = x_st (x_pop 39) := rfl
theorem t89_38 (C : xF) (s n : Nat) (z : xS) : x_to q_k89 C s (n + 1) 38 z = x_nx q_k89 C s n ((x_st (x_pop 39)) C z) := x_to_at f89_38 C s n z
theorem f89_39 : x_fetch q_k89 39 = x_lda 40 0 := rfl
theorem t89_39 (C : xF) (s n : Nat) (z : xS) : x_to q_k89 C s (n + 1) 39 z = x_nx q_k89 C s n ((x_lda 40 0) C z) := x_to_at f89_39 C s n z
theorem f89_40 : x_fetch q_k89 40 = x_gf 43 4 2 := rfl
theorem t89_40 (C : xF) (s n : Nat) (z : xS) : x_to q_k89 C s (n + 1) 40 z = x_nx q_k89 C s n ((x_gf 43 4 2) C z) := x_to_at f89_40 C s n z
theorem f89_43 : x_fetch q_k89 43 = x_ldi 44 2 := rfl
theorem t89_43 (C : xF) (s n : Nat) (z : xS) : x_to q_k89 C s (n + 1) 43 z = x_nx q_k89 C s n ((x_ldi 44 2) C z) := x_to_at f89_43 C s n z
theorem f89_44 : x_fetch q_k89 44 = x_ald 45 1 := rfl
theorem t89_44 (C : xF) (s n : Nat) (z : xS) : x_to q_k89 C s (n + 1) 44 z = x_nx q_k89 C s n ((x_ald 45 1) C z) := x_to_at f89_44 C s n z
theorem f89_45 : x_fetch q_k89 45 = x_st (x_ifeq 55 48) := rfl
theorem t89_45 (C : xF) (s n : Nat) (z : xS) : x_to q_k89 C s (n + 1) 45 z = x_nx q_k89 C s n ((x_st (x_ifeq 55 48)) C z) := x_to_at f89_45 C s n z
theorem f89_48 : x_fetch q_k89 48 = x_lda 49 1 := rfl
theorem t89_48 (C : xF) (s n : Nat) (z : xS) : x_to q_k89 C s (n + 1) 48 z = x_nx q_k89 C s n ((x_lda 49 1) C z) := x_to_at f89_48 C s n z
theorem f89_49 : x_fetch q_k89 49 = x_st (x_push 51 (.int (126))) := rfl
theorem t89_49 (C : xF) (s n : Nat) (z : xS) : x_to q_k89 C s (n + 1) 49 z = x_nx q_k89 C s n ((x_st (x_push 51 (.int (126)))) C z) := x_to_at f89_49 C s n z
theorem f89_51 : x_fetch q_k89 51 = x_cv 54 159 2 14 := rfl
theorem t89_51 (C : xF) (s n : Nat) (z : xS) : x_to q_k89 C s (n + 1) 51 z = x_nx q_k89 C s n ((x_cv 54 159 2 14) C z) := x_to_at f89_51 C s n z
theorem f89_54 : x_fetch q_k89 54 = x_st (x_pop 55) := rfl
theorem t89_54 (C : xF) (s n : Nat) (z : xS) : x_to q_k89 C s (n + 1) 54 z = x_nx q_k89 C s n ((x_st (x_pop 55)) C z) := x_to_at f89_54 C s n z
theorem f89_55 : x_fetch q_k89 55 = x_lda 56 0 := rfl
theorem t89_55 (C : xF) (s n : Nat) (z : xS) : x_to q_k89 C s (n + 1) 55 z = x_nx q_k89 C s n ((x_lda 56 0) C z) := x_to_at f89_55 C s n z
theorem f89_56 : x_fetch q_k89 56 = x_ldi 57 2 := rfl
theorem t89_56 (C : xF) (s n : Nat) (z : xS) : x_to q_k89 C s (n + 1) 56 z = x_nx q_k89 C s n ((x_ldi 57 2) C z) := x_to_at f89_56 C s n z
theorem f89_57 : x_fetch q_k89 57 = x_cv 60 11 2 4 := rfl
theorem t89_57 (C : xF) (s n : Nat) (z : xS) : x_to q_k89 C s (n + 1) 57 z = x_nx q_k89 C s n ((x_cv 60 11 2 4) C z) := x_to_at f89_57 C s n z
theorem f89_60 : x_fetch q_k89 60 = x_sti 61 3 := rfl
theorem t89_60 (C : xF) (s n : Nat) (z : xS) : x_to q_k89 C s (n + 1) 60 z = x_nx q_k89 C s n ((x_sti 61 3) C z) := x_to_at f89_60 C s n z
theorem f89_61 : x_fetch q_k89 61 = x_lda 62 0 := rfl
theorem t89_61 (C : xF) (s n : Nat) (z : xS) : x_to q_k89 C s (n + 1) 61 z = x_nx q_k89 C s n ((x_lda 62 0) C z) := x_to_at f89_61 C s n z
theorem f89_62 : x_fetch q_k89 62 = x_ldi 63 2 := rfl
theorem t89_62 (C : xF) (s n : Nat) (z : xS) : x_to q_k89 C s (n + 1) 62 z = x_nx q_k89 C s n ((x_ldi 63 2) C z) := x_to_at f89_62 C s n z
theorem f89_63 : x_fetch q_k89 63 = x_cv 66 13 2 4 := rfl
theorem t89_63 (C : xF) (s n : Nat) (z : xS) : x_to q_k89 C s (n + 1) 63 z = x_nx q_k89 C s n ((x_cv 66 13 2 4) C z) := x_to_at f89_63 C s n z
theorem f89_66 : x_fetch q_k89 66 = x_st (x_ifeq 86 69) := rfl
theorem t89_66 (C : xF) (s n : Nat) (z : xS) : x_to q_k89 C s (n + 1) 66 z = x_nx q_k89 C s n ((x_st (x_ifeq 86 69)) C z) := x_to_at f89_66 C s n z
theorem f89_69 : x_fetch q_k89 69 = x_lda 70 1 := rfl
theorem t89_69 (C : xF) (s n : Nat) (z : xS) : x_to q_k89 C s (n + 1) 69 z = x_nx q_k89 C s n ((x_lda 70 1) C z) := x_to_at f89_69 C s n z
theorem f89_70 : x_fetch q_k89 70 = x_lda 71 0 := rfl
theorem t89_70 (C : xF) (s n : Nat) (z : xS) : x_to q_k89 C s (n + 1) 70 z = x_nx q_k89 C s n ((x_lda 71 0) C z) := x_to_at f89_70 C s n z
theorem f89_71 : x_fetch q_k89 71 = x_ldi 72 3 := rfl
theorem t89_71 (C : xF) (s n : Nat) (z : xS) : x_to q_k89 C s (n + 1) 71 z = x_nx q_k89 C s n ((x_ldi 72 3) C z) := x_to_at f89_71 C s n z
theorem f89_72 : x_fetch q_k89 72 = x_st (x_push 73 (.int (1))) := rfl
theorem t89_72 (C : xF) (s n : Nat) (z : xS) : x_to q_k89 C s (n + 1) 72 z = x_nx q_k89 C s n ((x_st (x_push 73 (.int (1)))) C z) := x_to_at f89_72 C s n z
theorem f89_73 : x_fetch q_k89 73 = x_st (x_bin 74 (fun a b => a + b)) := rfl
theorem t89_73 (C : xF) (s n : Nat) (z : xS) : x_to q_k89 C s (n + 1) 73 z = x_nx q_k89 C s n ((x_st (x_bin 74 (fun a b => a + b))) C z) := x_to_at f89_73 C s n z
theorem f89_74 : x_fetch q_k89 74 = x_st (x_push 75 (.int (0))) := rfl
theorem t89_74 (C : xF) (s n : Nat) (z : xS) : x_to q_k89 C s (n + 1) 74 z = x_nx q_k89 C s n ((x_st (x_push 75 (.int (0)))) C z) := x_to_at f89_74 C s n z
theorem f89_75 : x_fetch q_k89 75 = x_cl_ 78 90 4 := rfl
theorem t89_75 (C : xF) (s n : Nat) (z : xS) : x_to q_k89 C s (n + 1) 75 z = x_nx q_k89 C s n ((x_cl_ 78 90 4) C z) := x_to_at f89_75 C s n z
theorem f89_78 : x_fetch q_k89 78 = x_sti 79 3 := rfl
theorem t89_78 (C : xF) (s n : Nat) (z : xS) : x_to q_k89 C s (n + 1) 78 z = x_nx q_k89 C s n ((x_sti 79 3) C z) := x_to_at f89_78 C s n z
theorem f89_79 : x_fetch q_k89 79 = x_lda 80 1 := rfl
theorem t89_79 (C : xF) (s n : Nat) (z : xS) : x_to q_k89 C s (n + 1) 79 z = x_nx q_k89 C s n ((x_lda 80 1) C z) := x_to_at f89_79 C s n z
theorem f89_80 : x_fetch q_k89 80 = x_st (x_push 82 (.int (61))) := rfl
theorem t89_80 (C : xF) (s n : Nat) (z : xS) : x_to q_k89 C s (n + 1) 80 z = x_nx q_k89 C s n ((x_st (x_push 82 (.int (61)))) C z) := x_to_at f89_80 C s n z
theorem f89_82 : x_fetch q_k89 82 = x_cv 85 159 2 14 := rfl
theorem t89_82 (C : xF) (s n : Nat) (z : xS) : x_to q_k89 C s (n + 1) 82 z = x_nx q_k89 C s n ((x_cv 85 159 2 14) C z) := x_to_at f89_82 C s n z
theorem f89_85 : x_fetch q_k89 85 = x_st (x_pop 86) := rfl
theorem t89_85 (C : xF) (s n : Nat) (z : xS) : x_to q_k89 C s (n + 1) 85 z = x_nx q_k89 C s n ((x_st (x_pop 86)) C z) := x_to_at f89_85 C s n z
theorem f89_86 : x_fetch q_k89 86 = x_lda 87 1 := rfl
theorem t89_86 (C : xF) (s n : Nat) (z : xS) : x_to q_k89 C s (n + 1) 86 z = x_nx q_k89 C s n ((x_lda 87 1) C z) := x_to_at f89_86 C s n z
theorem f89_87 : x_fetch q_k89 87 = x_lda 88 0 := rfl
theorem t89_87 (C : xF) (s n : Nat) (z : xS) : x_to q_k89 C s (n + 1) 87 z = x_nx q_k89 C s n ((x_lda 88 0) C z) := x_to_at f89_87 C s n z
theorem f89_88 : x_fetch q_k89 88 = x_ldi 89 3 := rfl
theorem t89_88 (C : xF) (s n : Nat) (z : xS) : x_to q_k89 C s (n + 1) 88 z = x_nx q_k89 C s n ((x_ldi 89 3) C z) := x_to_at f89_88 C s n z
theorem f89_89 : x_fetch q_k89 89 = x_st (x_push 90 (.int (0))) := rfl
theorem t89_89 (C : xF) (s n : Nat) (z : xS) : x_to q_k89 C s (n + 1) 89 z = x_nx q_k89 C s n ((x_st (x_push 90 (.int (0)))) C z) := x_to_at f89_89 C s n z
theorem f89_90 : x_fetch q_k89 90 = x_cl_ 93 90 4 := rfl
theorem t89_90 (C : xF) (s n : Nat) (z : xS) : x_to q_k89 C s (n + 1) 90 z = x_nx q_k89 C s n ((x_cl_ 93 90 4) C z) := x_to_at f89_90 C s n z
theorem f89_93 : x_fetch q_k89 93 = x_st (x_pop 94) := rfl
theorem t89_93 (C : xF) (s n : Nat) (z : xS) : x_to q_k89 C s (n + 1) 93 z = x_nx q_k89 C s n ((x_st (x_pop 94)) C z) := x_to_at f89_93 C s n z
theorem f89_94 : x_fetch q_k89 94 = x_iinc 97 2 (1) := rfl
theorem t89_94 (C : xF) (s n : Nat) (z : xS) : x_to q_k89 C s (n + 1) 94 z = x_nx q_k89 C s n ((x_iinc 97 2 (1)) C z) := x_to_at f89_94 C s n z
theorem f89_97 : x_fetch q_k89 97 = x_st (x_goto 20) := rfl
theorem t89_97 (C : xF) (s n : Nat) (z : xS) : x_to q_k89 C s (n + 1) 97 z = x_nx q_k89 C s n ((x_st (x_goto 20)) C z) := x_to_at f89_97 C s n z
theorem f89_100 : x_fetch q_k89 100 = x_lda 101 1 := rfl
theorem t89_100 (C : xF) (s n : Nat) (z : xS) : x_to q_k89 C s (n + 1) 100 z = x_nx q_k89 C s n ((x_lda 101 1) C z) := x_to_at f89_100 C s n z
theorem f89_101 : x_fetch q_k89 101 = x_cv 104 167 1 14 := rfl
theorem t89_101 (C : xF) (s n : Nat) (z : xS) : x_to q_k89 C s (n + 1) 101 z = x_nx q_k89 C s n ((x_cv 104 167 1 14) C z) := x_to_at f89_101 C s n z
theorem f89_104 : x_fetch q_k89 104 = x_ra := rfl
theorem t89_104 (C : xF) (s n : Nat) (z : xS) : x_to q_k89 C s (n + 1) 104 z = x_nx q_k89 C s n ((x_ra) C z) := x_to_at f89_104 C s n z
/-- only an atom's first sign may be = -/
def no9 (D : List (Int × List Int)) : Prop := ∀ y ∈ D, ∀ s u, y.2 = s :: u → ∀ x ∈ u, x ≠ 99
theorem tm_all {A : List Int} {i : Nat} (h : i + (tm A i).length = A.length) : tm A i = A.drop i := by
  obtain ⟨b, hb⟩ := tk_pre (A.drop i) 1
  have e : tk 1 (A.drop i) = tm A i := rfl
  rw [e] at hb
  have hl := congrArg List.length hb
  rw [List.length_append, List.length_drop] at hl
  have hb0 : b = [] := List.eq_nil_of_length_eq_zero (by omega)
  rw [hb0, List.append_nil] at hb
  exact hb.symm
theorem drop_in {A : List Int} {i : Nat} {x : Int} (hi : 0 < i) (h : x ∈ A.drop i) : ∀ s u, A = s :: u → x ∈ u := by
  intro s u e
  subst e
  cases i with
  | zero => omega
  | succ i => exact List.mem_of_mem_drop h
section TX2
variable {sb a : Nat} {D : List (Int × List Int)}
def lv89 (lv : xL) (sb a : Nat) (k : Int) : Prop := c1 lv ∧ x_lk lv 0 = some (.ref (a + 3)) ∧ x_lk lv 1 = some (.ref (sb + 3)) ∧ x_lk lv 2 = some (.int (iZ k))
theorem lv89.st {lv : xL} {k : Int} (h : lv89 lv sb a k) {q : Nat} {v : Value} (hq : 2 < q) (hv : v.category = 1) : lv89 ((q, v) :: lv.filter (x_keep q)) sb a k := by
  obtain ⟨h1, h2, h3, h4⟩ := h
  refine ⟨c1_st hv h1, ?_, ?_, ?_⟩ <;> rw [lk_s h1, if_neg (by omega)] <;> assumption
set_option maxHeartbeats 1000000 in
/-- from a literal's beginning to where its atom is told -/
theorem P89 (d : Nat) (k : Nat) (hk : k < D.length) (w : Nat → xC) (N : Nat) (L : List Int) (lv : xL) (hF : FT w sb a D) (hS : SB w N sb L) (hL : L.length ≤ 180) (hv : lv89 lv sb a k) :
    ∃ (w' : Nat → xC) (N' : Nat), TB w N sb L w' N' (L ++ ((if 0 < k then [124] else []) ++ (if (lC D k).1 = 1 then [126] else []))) ∧ ∀ res, Gx q_k89 (d + 46) 55 (lv, [], hp w' N') res → Gx q_k89 (d + 46) 20 (lv, [], hp w N) res := by
  have hF' := hF
  obtain ⟨S, E, B, o, f1, f2, f3, f4, f5, f6, f7, f8, f9, f10⟩ := hF'
  have d6 := f6.1
  obtain ⟨⟨F, hF14⟩, sN⟩ := hS.k14
  have hv' := hv
  obtain ⟨hc, l0, l1, l2⟩ := hv'
  have s1 := (f6.2.2 _ (lC_mem hk)).1
  -- 124
  have A : ∃ (w' : Nat → xC) (N' : Nat), TB w N sb L w' N' (L ++ (if 0 < k then [124] else [])) ∧ ∀ res, Gx q_k89 (d + 46) 39 (lv, [], hp w' N') res → Gx q_k89 (d + 46) 20 (lv, [], hp w N) res := by
    have g1 := f1.1
    obtain ⟨kk, hkk⟩ : ∃ kk : Int, kk = (k : Int) := ⟨_, rfl⟩
    obtain ⟨n, hn⟩ : ∃ n : Int, n = (D.length : Int) := ⟨_, rfl⟩
    rw [← hn] at g1
    rw [← hkk] at l2
    have b1 : ¬ n ≤ kk := by omega
    have k0 : 0 ≤ kk := by omega
    have n9 : n ≤ 6 := by omega
    by_cases h0 : 0 < k
    · rw [if_pos h0]
      obtain ⟨w1, N1, i1, i2⟩ := hS.put (d + 41) (by omega) 124 (by omega) (by omega)
      refine ⟨w1, N1, i1, fun res hres => Gx.run 30 i2 (fun X mm => ?_) hres⟩
      have b2 : ¬ kk ≤ 0 := by omega
      simp (disch := first | (refine c1_id ?_; assumption) | (refine c1_st rfl ?_; repeat (first | assumption | refine c1_st rfl ?_)) | omega) [nx_l, nx_r, nx_n, x_st, x_push, x_bin, x_div, x_un, x_dup, x_pop, x_dup2, x_goto, x_ifeq, x_ifne, x_iflt, x_ifge, x_ifgt, x_ifle, x_iceq, x_icne, x_iclt, x_icge, x_icgt, x_icle, x_ifnull, x_ifnonnull, x_ldi, x_lda, x_sti, x_sta, x_iinc, x_gf, x_pf, x_ald, x_ast, x_aln, x_len, x_cl_, x_cv, x_cs, x_rc, x_r0, x_isT, x_oi, x_rv, x_ri, x_ra, Value.category, t89_0, t89_1, t89_4, t89_7, t89_9, t89_10, t89_13, t89_14, t89_17, t89_18, t89_19, t89_20, t89_21, t89_22, t89_25, t89_28, t89_29, t89_32, t89_33, t89_35, t89_38, t89_39, t89_40, t89_43, t89_44, t89_45, t89_48, t89_49, t89_51, t89_54, t89_55, t89_56, t89_57, t89_60, t89_61, t89_62, t89_63, t89_66, t89_69, t89_70, t89_71, t89_72, t89_73, t89_74, t89_75, t89_78, t89_79, t89_80, t89_82, t89_85, t89_86, t89_87, t89_88, t89_89, t89_90, t89_93, t89_94, t89_97, t89_100, t89_101, t89_104, lk_s, hp_get, hp_set, uH_at, uH_ne, uH_upd, uH_swap, iZ_add, iZ_sub, iZ_mul, iZ_neg, iZ_lt, iZ_le, iZ_eq, iZ_div, iZ_of, ix_Z, gZ_map, gZ_mapI, gZ_map', le_0, le_s, sZ_map, sZ_len, bZ_0, bZ_inj, bZ_t, bZ_f, nr_i, nr_0, nr_1, nr_b, ft_i, ft_b, ft_0, ft_1, zl_0, zl_1, zl_61, zl_124, zl_126, l0, l1, l2, g1, b1, b2, hF14, mm, -List.filter_filter, -List.getElem?_map, -List.getD_eq_getElem?_getD]
    · rw [if_neg h0, List.append_nil]
      refine ⟨w, N, TB.rf hS, fun res hres => Gx.run 30 Cs.tt (fun X _ => ?_) hres⟩
      have b2 : kk ≤ 0 := by omega
      simp (disch := first | (refine c1_id ?_; assumption) | (refine c1_st rfl ?_; repeat (first | assumption | refine c1_st rfl ?_)) | omega) [nx_l, nx_r, nx_n, x_st, x_push, x_bin, x_div, x_un, x_dup, x_pop, x_dup2, x_goto, x_ifeq, x_ifne, x_iflt, x_ifge, x_ifgt, x_ifle, x_iceq, x_icne, x_iclt, x_icge, x_icgt, x_icle, x_ifnull, x_ifnonnull, x_ldi, x_lda, x_sti, x_sta, x_iinc, x_gf, x_pf, x_ald, x_ast, x_aln, x_len, x_cl_, x_cv, x_cs, x_rc, x_r0, x_isT, x_oi, x_rv, x_ri, x_ra, Value.category, t89_0, t89_1, t89_4, t89_7, t89_9, t89_10, t89_13, t89_14, t89_17, t89_18, t89_19, t89_20, t89_21, t89_22, t89_25, t89_28, t89_29, t89_32, t89_33, t89_35, t89_38, t89_39, t89_40, t89_43, t89_44, t89_45, t89_48, t89_49, t89_51, t89_54, t89_55, t89_56, t89_57, t89_60, t89_61, t89_62, t89_63, t89_66, t89_69, t89_70, t89_71, t89_72, t89_73, t89_74, t89_75, t89_78, t89_79, t89_80, t89_82, t89_85, t89_86, t89_87, t89_88, t89_89, t89_90, t89_93, t89_94, t89_97, t89_100, t89_101, t89_104, lk_s, hp_get, hp_set, uH_at, uH_ne, uH_upd, uH_swap, iZ_add, iZ_sub, iZ_mul, iZ_neg, iZ_lt, iZ_le, iZ_eq, iZ_div, iZ_of, ix_Z, gZ_map, gZ_mapI, gZ_map', le_0, le_s, sZ_map, sZ_len, bZ_0, bZ_inj, bZ_t, bZ_f, nr_i, nr_0, nr_1, nr_b, ft_i, ft_b, ft_0, ft_1, zl_0, zl_1, zl_61, zl_124, zl_126, l0, l1, l2, g1, b1, b2, -List.filter_filter, -List.getElem?_map, -List.getD_eq_getElem?_getD]
  obtain ⟨w1, N1, i1, g39⟩ := A
  have i1' := i1
  obtain ⟨nn1, ll1, mm1_, hS1, fr1, _⟩ := i1'
  have hF1 := hF.mv fr1
  obtain ⟨S1, E1, B1, o1, e1, e2, e3, e4, e5, e6, e7, e8, e9, e10⟩ := hF1
  have eB := e5.2.2 k hk
  obtain ⟨⟨F1, hF141⟩, sN1⟩ := hS1.k14
  obtain ⟨p1, p2, p3, p4⟩ := e1
  have l124 : (L ++ (if 0 < k then [124] else [])).length ≤ 181 := by
    rw [List.length_append]
    have : (if 0 < k then [(124 : Int)] else []).length ≤ 1 := by split <;> simp
    omega
  obtain ⟨kk, hkk⟩ : ∃ kk : Int, kk = (k : Int) := ⟨_, rfl⟩
  rw [← hkk] at l2 eB
  have k0 : 0 ≤ kk := by omega
  have kB : kk < B1.length := by omega
  by_cases hneg : (lC D k).1 = 1
  · rw [if_pos hneg]
    obtain ⟨w2, N2, i3, i4⟩ := hS1.put (d + 41) (by omega) 126 (by omega) (by omega)
    refine ⟨w2, N2, by rw [← List.append_assoc]; exact i1.tr i3, fun res hres => g39 _ (Gx.run 30 i4 (fun X mm => ?_) hres)⟩
    rw [hneg] at eB
    simp (disch := first | (refine c1_id ?_; assumption) | (refine c1_st rfl ?_; repeat (first | assumption | refine c1_st rfl ?_)) | omega) [nx_l, nx_r, nx_n, x_st, x_push, x_bin, x_div, x_un, x_dup, x_pop, x_dup2, x_goto, x_ifeq, x_ifne, x_iflt, x_ifge, x_ifgt, x_ifle, x_iceq, x_icne, x_iclt, x_icge, x_icgt, x_icle, x_ifnull, x_ifnonnull, x_ldi, x_lda, x_sti, x_sta, x_iinc, x_gf, x_pf, x_ald, x_ast, x_aln, x_len, x_cl_, x_cv, x_cs, x_rc, x_r0, x_isT, x_oi, x_rv, x_ri, x_ra, Value.category, t89_0, t89_1, t89_4, t89_7, t89_9, t89_10, t89_13, t89_14, t89_17, t89_18, t89_19, t89_20, t89_21, t89_22, t89_25, t89_28, t89_29, t89_32, t89_33, t89_35, t89_38, t89_39, t89_40, t89_43, t89_44, t89_45, t89_48, t89_49, t89_51, t89_54, t89_55, t89_56, t89_57, t89_60, t89_61, t89_62, t89_63, t89_66, t89_69, t89_70, t89_71, t89_72, t89_73, t89_74, t89_75, t89_78, t89_79, t89_80, t89_82, t89_85, t89_86, t89_87, t89_88, t89_89, t89_90, t89_93, t89_94, t89_97, t89_100, t89_101, t89_104, lk_s, hp_get, hp_set, uH_at, uH_ne, uH_upd, uH_swap, iZ_add, iZ_sub, iZ_mul, iZ_neg, iZ_lt, iZ_le, iZ_eq, iZ_div, iZ_of, ix_Z, gZ_map, gZ_mapI, gZ_map', le_0, le_s, sZ_map, sZ_len, bZ_0, bZ_inj, bZ_t, bZ_f, nr_i, nr_0, nr_1, nr_b, ft_i, ft_b, ft_0, ft_1, zl_0, zl_1, zl_61, zl_124, zl_126, l0, l1, l2, p1, p4, eB, hF141, mm, -List.filter_filter, -List.getElem?_map, -List.getD_eq_getElem?_getD]
  · rw [if_neg hneg, List.append_nil]
    have h0 : (lC D k).1 = 0 := by omega
    refine ⟨w1, N1, i1, fun res hres => g39 _ (Gx.run 30 Cs.tt (fun X _ => ?_) hres)⟩
    rw [h0] at eB
    simp (disch := first | (refine c1_id ?_; assumption) | (refine c1_st rfl ?_; repeat (first | assumption | refine c1_st rfl ?_)) | omega) [nx_l, nx_r, nx_n, x_st, x_push, x_bin, x_div, x_un, x_dup, x_pop, x_dup2, x_goto, x_ifeq, x_ifne, x_iflt, x_ifge, x_ifgt, x_ifle, x_iceq, x_icne, x_iclt, x_icge, x_icgt, x_icle, x_ifnull, x_ifnonnull, x_ldi, x_lda, x_sti, x_sta, x_iinc, x_gf, x_pf, x_ald, x_ast, x_aln, x_len, x_cl_, x_cv, x_cs, x_rc, x_r0, x_isT, x_oi, x_rv, x_ri, x_ra, Value.category, t89_0, t89_1, t89_4, t89_7, t89_9, t89_10, t89_13, t89_14, t89_17, t89_18, t89_19, t89_20, t89_21, t89_22, t89_25, t89_28, t89_29, t89_32, t89_33, t89_35, t89_38, t89_39, t89_40, t89_43, t89_44, t89_45, t89_48, t89_49, t89_51, t89_54, t89_55, t89_56, t89_57, t89_60, t89_61, t89_62, t89_63, t89_66, t89_69, t89_70, t89_71, t89_72, t89_73, t89_74, t89_75, t89_78, t89_79, t89_80, t89_82, t89_85, t89_86, t89_87, t89_88, t89_89, t89_90, t89_93, t89_94, t89_97, t89_100, t89_101, t89_104, lk_s, hp_get, hp_set, uH_at, uH_ne, uH_upd, uH_swap, iZ_add, iZ_sub, iZ_mul, iZ_neg, iZ_lt, iZ_le, iZ_eq, iZ_div, iZ_of, ix_Z, gZ_map, gZ_mapI, gZ_map', le_0, le_s, sZ_map, sZ_len, bZ_0, bZ_inj, bZ_t, bZ_f, nr_i, nr_0, nr_1, nr_b, ft_i, ft_b, ft_0, ft_1, zl_0, zl_1, zl_61, zl_124, zl_126, l0, l1, l2, p1, p4, eB, -List.filter_filter, -List.getElem?_map, -List.getD_eq_getElem?_getD]
set_option maxHeartbeats 1000000 in
/-- the atom is told -/
theorem Q89 (d : Nat) (k : Nat) (hk : k < D.length) (h9 : no9 D) (w : Nat → xC) (N : Nat) (L : List Int) (lv : xL) (hF : FT w sb a D) (hS : SB w N sb L) (hL : L.length + 4 * (lC D k).2.length ≤ 186) (hv : lv89 lv sb a k) :
    ∃ (w' : Nat → xC) (N' : Nat) (lv' : xL), TB w N sb L w' N' (L ++ (if (lC D k).2.getD 0 0 = 99 then goT (tm (lC D k).2 1) [] ++ (61 :: goT ((lC D k).2.drop (1 + (tm (lC D k).2 1).length)) []) else goT (lC D k).2 [])) ∧ lv89 lv' sb a ((k : Int) + 1) ∧ ∀ res, Gx q_k89 (d + 46) 20 (lv', [], hp w' N') res → Gx q_k89 (d + 46) 55 (lv, [], hp w N) res := by
  have hF' := hF
  obtain ⟨S, E, B, o, f1, f2, f3, f4, f5, f6, f7, f8, f9, f10⟩ := hF'
  have d6 := f6.1
  have f40 := f6.2.1
  have hT := (f6.2.2 _ (lC_mem hk)).2.1
  have hne := f6.ne _ (lC_mem hk)
  have hnx := h9 _ (lC_mem hk)
  obtain ⟨⟨F, hF14⟩, sN⟩ := hS.k14
  have hfN : fN N a S E B := ⟨by omega, f2, f3, f4⟩
  have X11 := m11 (N := N) (d + 45) (k : Int) f1 hfN (by omega) (by omega)
  rw [f5.st (by omega)] at X11
  have X13_ := X13 (N := N) (d := d + 44) k hk f1 hfN f5 f6.gv f8 f7 hne
  have lt0 := stC_lt (i := 0) hk hne
  have sk := stC_succ hk
  have mk := stC_mono (C := D) (show k + 1 ≤ D.length from hk)
  rw [stC_all] at mk
  have et0 := tmA hk hne hT
  rw [tm_at0 hT, Nat.add_zero] at et0
  have g1 := f1.1
  obtain ⟨st, hst⟩ : ∃ st : Int, st = (stC D k : Int) := ⟨_, rfl⟩
  rw [← hst] at X11
  have L3 := hv.st (q := 3) (v := .int (iZ st)) (by omega) rfl
  have hv' := hv
  obtain ⟨hc, l0, l1, l2⟩ := hv'
  have q3 : x_lk ((3, .int (iZ st)) :: lv.filter (x_keep 3)) 3 = some (.int (iZ st)) := by rw [lk_s hc]; rfl
  have g61 : ∀ res, Gx q_k89 (d + 46) 61 ((3, .int (iZ st)) :: lv.filter (x_keep 3), [], hp w N) res → Gx q_k89 (d + 46) 55 (lv, [], hp w N) res := fun res hres => by
    refine Gx.run 20 X11 (fun X mm => ?_) hres
    simp (disch := first | (refine c1_id ?_; assumption) | (refine c1_st rfl ?_; repeat (first | assumption | refine c1_st rfl ?_)) | omega) [nx_l, nx_r, nx_n, x_st, x_push, x_bin, x_div, x_un, x_dup, x_pop, x_dup2, x_goto, x_ifeq, x_ifne, x_iflt, x_ifge, x_ifgt, x_ifle, x_iceq, x_icne, x_iclt, x_icge, x_icgt, x_icle, x_ifnull, x_ifnonnull, x_ldi, x_lda, x_sti, x_sta, x_iinc, x_gf, x_pf, x_ald, x_ast, x_aln, x_len, x_cl_, x_cv, x_cs, x_rc, x_r0, x_isT, x_oi, x_rv, x_ri, x_ra, Value.category, t89_0, t89_1, t89_4, t89_7, t89_9, t89_10, t89_13, t89_14, t89_17, t89_18, t89_19, t89_20, t89_21, t89_22, t89_25, t89_28, t89_29, t89_32, t89_33, t89_35, t89_38, t89_39, t89_40, t89_43, t89_44, t89_45, t89_48, t89_49, t89_51, t89_54, t89_55, t89_56, t89_57, t89_60, t89_61, t89_62, t89_63, t89_66, t89_69, t89_70, t89_71, t89_72, t89_73, t89_74, t89_75, t89_78, t89_79, t89_80, t89_82, t89_85, t89_86, t89_87, t89_88, t89_89, t89_90, t89_93, t89_94, t89_97, t89_100, t89_101, t89_104, lk_s, hp_get, hp_set, uH_at, uH_ne, uH_upd, uH_swap, iZ_add, iZ_sub, iZ_mul, iZ_neg, iZ_lt, iZ_le, iZ_eq, iZ_div, iZ_of, ix_Z, gZ_map, gZ_mapI, gZ_map', le_0, le_s, sZ_map, sZ_len, bZ_0, bZ_inj, bZ_t, bZ_f, nr_i, nr_0, nr_1, nr_b, ft_i, ft_b, ft_0, ft_1, zl_0, zl_1, zl_61, zl_124, zl_126, l0, l2, g1, mm, -List.filter_filter, -List.getElem?_map, -List.getD_eq_getElem?_getD]
  generalize ((3, .int (iZ st)) :: lv.filter (x_keep 3) : xL) = lv3 at L3 q3 g61
  -- the end of the round
  have fin : ∀ {w1 : Nat → xC} {N1 : Nat} {lv4 : xL}, lv89 lv4 sb a k → ∃ lv', lv89 lv' sb a ((k : Int) + 1) ∧ ∀ res, Gx q_k89 (d + 46) 20 (lv', [], hp w1 N1) res → Gx q_k89 (d + 46) 94 (lv4, [], hp w1 N1) res := fun {w1 N1 lv4} h4 => by
    obtain ⟨c4, m0, m1, m2⟩ := h4
    have C2 := c1_st (i := 2) (v := .int (iZ ((k : Int) + 1))) rfl c4
    refine ⟨(2, .int (iZ ((k : Int) + 1))) :: lv4.filter (x_keep 2), ⟨C2, by rw [lk_s c4]; exact m0, by rw [lk_s c4]; exact m1, by rw [lk_s c4]; rfl⟩, fun res hres => ?_⟩
    refine Gx.run 10 Cs.tt (fun X _ => ?_) (Gx.run (pc := 97) (z := ((2, .int (iZ ((k : Int) + 1))) :: lv4.filter (x_keep 2), [], hp w1 N1)) 5 Cs.tt (fun X _ => ?_) hres)
    · simp (disch := first | (refine c1_id ?_; assumption) | (refine c1_st rfl ?_; repeat (first | assumption | refine c1_st rfl ?_)) | omega) [nx_l, nx_r, nx_n, x_st, x_push, x_bin, x_div, x_un, x_dup, x_pop, x_dup2, x_goto, x_ifeq, x_ifne, x_iflt, x_ifge, x_ifgt, x_ifle, x_iceq, x_icne, x_iclt, x_icge, x_icgt, x_icle, x_ifnull, x_ifnonnull, x_ldi, x_lda, x_sti, x_sta, x_iinc, x_gf, x_pf, x_ald, x_ast, x_aln, x_len, x_cl_, x_cv, x_cs, x_rc, x_r0, x_isT, x_oi, x_rv, x_ri, x_ra, Value.category, t89_0, t89_1, t89_4, t89_7, t89_9, t89_10, t89_13, t89_14, t89_17, t89_18, t89_19, t89_20, t89_21, t89_22, t89_25, t89_28, t89_29, t89_32, t89_33, t89_35, t89_38, t89_39, t89_40, t89_43, t89_44, t89_45, t89_48, t89_49, t89_51, t89_54, t89_55, t89_56, t89_57, t89_60, t89_61, t89_62, t89_63, t89_66, t89_69, t89_70, t89_71, t89_72, t89_73, t89_74, t89_75, t89_78, t89_79, t89_80, t89_82, t89_85, t89_86, t89_87, t89_88, t89_89, t89_90, t89_93, t89_94, t89_97, t89_100, t89_101, t89_104, lk_s, hp_get, hp_set, uH_at, uH_ne, uH_upd, uH_swap, iZ_add, iZ_sub, iZ_mul, iZ_neg, iZ_lt, iZ_le, iZ_eq, iZ_div, iZ_of, ix_Z, gZ_map, gZ_mapI, gZ_map', le_0, le_s, sZ_map, sZ_len, bZ_0, bZ_inj, bZ_t, bZ_f, nr_i, nr_0, nr_1, nr_b, ft_i, ft_b, ft_0, ft_1, zl_0, zl_1, zl_61, zl_124, zl_126, m2, -List.filter_filter, -List.getElem?_map, -List.getD_eq_getElem?_getD]
    · simp (disch := first | (refine c1_id ?_; assumption) | (refine c1_st rfl ?_; repeat (first | assumption | refine c1_st rfl ?_)) | omega) [nx_l, nx_r, nx_n, x_st, x_push, x_bin, x_div, x_un, x_dup, x_pop, x_dup2, x_goto, x_ifeq, x_ifne, x_iflt, x_ifge, x_ifgt, x_ifle, x_iceq, x_icne, x_iclt, x_icge, x_icgt, x_icle, x_ifnull, x_ifnonnull, x_ldi, x_lda, x_sti, x_sta, x_iinc, x_gf, x_pf, x_ald, x_ast, x_aln, x_len, x_cl_, x_cv, x_cs, x_rc, x_r0, x_isT, x_oi, x_rv, x_ri, x_ra, Value.category, t89_0, t89_1, t89_4, t89_7, t89_9, t89_10, t89_13, t89_14, t89_17, t89_18, t89_19, t89_20, t89_21, t89_22, t89_25, t89_28, t89_29, t89_32, t89_33, t89_35, t89_38, t89_39, t89_40, t89_43, t89_44, t89_45, t89_48, t89_49, t89_51, t89_54, t89_55, t89_56, t89_57, t89_60, t89_61, t89_62, t89_63, t89_66, t89_69, t89_70, t89_71, t89_72, t89_73, t89_74, t89_75, t89_78, t89_79, t89_80, t89_82, t89_85, t89_86, t89_87, t89_88, t89_89, t89_90, t89_93, t89_94, t89_97, t89_100, t89_101, t89_104, lk_s, hp_get, hp_set, uH_at, uH_ne, uH_upd, uH_swap, iZ_add, iZ_sub, iZ_mul, iZ_neg, iZ_lt, iZ_le, iZ_eq, iZ_div, iZ_of, ix_Z, gZ_map, gZ_mapI, gZ_map', le_0, le_s, sZ_map, sZ_len, bZ_0, bZ_inj, bZ_t, bZ_f, nr_i, nr_0, nr_1, nr_b, ft_i, ft_b, ft_0, ft_1, zl_0, zl_1, zl_61, zl_124, zl_126, -List.filter_filter, -List.getElem?_map, -List.getD_eq_getElem?_getD]
  by_cases hq : (lC D k).2.getD 0 0 = 99
  · rw [if_pos hq]
    rw [decide_eq_true hq, bZ_t] at X13_
    obtain ⟨t1, t2⟩ := two_99 hT hq
    have el := eq_len hT hq
    have lt1 := stC_lt hk t1
    have lt2 := stC_lt hk t2
    have et1 := tmA hk t1 hT
    have et2 := tmA hk t2 hT
    have ea : tm (lC D k).2 (1 + (tm (lC D k).2 1).length) = (lC D k).2.drop (1 + (tm (lC D k).2 1).length) := tm_all (by omega)
    obtain ⟨u1, hu1⟩ : ∃ u1, u1 = tm (lC D k).2 1 := ⟨_, rfl⟩
    obtain ⟨u2, hu2⟩ : ∃ u2, u2 = (lC D k).2.drop (1 + (tm (lC D k).2 1).length) := ⟨_, rfl⟩
    rw [← hu2] at ea ⊢
    rw [ea, ← hu1] at el
    have T1 := Ts_at hT t1
    have T2 := Ts_at hT t2
    rw [ea] at T2 et2
    rw [← hu1] at T1 et1 et2 t2 lt2 ⊢
    have in1 : ∀ s ∈ u1, s ≠ 99 := fun s hs => by
      obtain ⟨s0, r0, e0⟩ : ∃ s0 r0, (lC D k).2 = s0 :: r0 := by
        cases hh : (lC D k).2 with
        | nil => rw [hh] at hne; simp at hne
        | cons s0 r0 => exact ⟨s0, r0, rfl⟩
      refine hnx s0 r0 e0 s (drop_in (A := (lC D k).2) (i := 1) (by omega) ?_ s0 r0 e0)
      rw [hu1] at hs
      exact tm_sub hs
    have in2 : ∀ s ∈ u2, s ≠ 99 := fun s hs => by
      obtain ⟨s0, r0, e0⟩ : ∃ s0 r0, (lC D k).2 = s0 :: r0 := by
        cases hh : (lC D k).2 with
        | nil => rw [hh] at hne; simp at hne
        | cons s0 r0 => exact ⟨s0, r0, rfl⟩
      refine hnx s0 r0 e0 s (drop_in (A := (lC D k).2) (i := 1 + (tm (lC D k).2 1).length) (by omega) ?_ s0 r0 e0)
      rw [hu2] at hs
      exact hs
    -- the left side
    obtain ⟨w1, N1, i1, i2⟩ := S90 (sb := sb) (a := a) (D := D) d 40 (stC D k + 1) 0 w N L hF hS lt1 (by rw [et1]; exact T1) (by rw [et1]; omega) (by rw [et1]; omega) (by rw [et1]; exact in1) (by rw [et1]; omega)
    rw [et1] at i1 i2
    have i1' := i1
    obtain ⟨_, _, _, hS1, fr1, _⟩ := i1'
    have hF1 := hF.mv fr1
    have gl := goT_len u1 []
    simp only [List.length_nil, Nat.add_zero] at gl
    -- the sign
    obtain ⟨w2, N2, i3, i4⟩ := hS1.put (d + 41) (by rw [List.length_append]; omega) 61 (by omega) (by omega)
    have i3' := i3
    obtain ⟨_, _, _, hS2, fr2, _⟩ := i3'
    have hF2 := hF1.mv fr2
    obtain ⟨⟨F1, hF141⟩, sN1⟩ := hS1.k14
    -- the right side
    rw [← Nat.add_assoc] at et2 lt2
    obtain ⟨w3, N3, i5, i6⟩ := S90 (sb := sb) (a := a) (D := D) d 40 (stC D k + 1 + u1.length) 0 w2 N2 _ hF2 hS2 lt2 (by rw [et2]; exact T2) (by rw [et2]; omega) (by rw [et2]; omega) (by rw [et2]; exact in2) (by rw [et2, List.length_append, List.length_append, List.length_singleton]; omega)
    rw [et2] at i5 i6
    obtain ⟨nx, hnx'⟩ : ∃ nx : Int, nx = ((stC D k + 1 + u1.length : Nat) : Int) := ⟨_, rfl⟩
    have L4 := L3.st (q := 3) (v := .int (iZ nx)) (by omega) rfl
    obtain ⟨lv', j1, j2⟩ := fin (w1 := w3) (N1 := N3) L4
    refine ⟨w3, N3, lv', ?_, j1, fun res hres => g61 _ ?_⟩
    · have e : L ++ (goT u1 [] ++ (61 :: goT u2 [])) = L ++ goT u1 [] ++ [61] ++ goT u2 [] := by simp
      rw [e]
      exact (i1.tr i3).tr i5
    · obtain ⟨c3, m0, m1, m2⟩ := L3
      rw [show ((stC D k + 1 : Nat) : Int) = st + 1 by omega, show ((0 : Nat) : Int) = 0 from rfl, ← hnx'] at i2
      rw [← hnx', show ((0 : Nat) : Int) = 0 from rfl] at i6
      have hk2 : x_lk lv3 2 = some (.int (iZ (k : Int))) := m2
      obtain ⟨kk, hkk⟩ : ∃ kk : Int, kk = (k : Int) := ⟨_, rfl⟩
      rw [← hkk] at hk2 X13_
      refine Gx.run 80 (((X13_.and i2).and i4).and i6) (fun X mm => ?_) (j2 _ hres)
      obtain ⟨⟨⟨mm1, mm2⟩, mm3⟩, mm4⟩ := mm
      simp (disch := first | (refine c1_id ?_; assumption) | (refine c1_st rfl ?_; repeat (first | assumption | refine c1_st rfl ?_)) | omega) [nx_l, nx_r, nx_n, x_st, x_push, x_bin, x_div, x_un, x_dup, x_pop, x_dup2, x_goto, x_ifeq, x_ifne, x_iflt, x_ifge, x_ifgt, x_ifle, x_iceq, x_icne, x_iclt, x_icge, x_icgt, x_icle, x_ifnull, x_ifnonnull, x_ldi, x_lda, x_sti, x_sta, x_iinc, x_gf, x_pf, x_ald, x_ast, x_aln, x_len, x_cl_, x_cv, x_cs, x_rc, x_r0, x_isT, x_oi, x_rv, x_ri, x_ra, Value.category, t89_0, t89_1, t89_4, t89_7, t89_9, t89_10, t89_13, t89_14, t89_17, t89_18, t89_19, t89_20, t89_21, t89_22, t89_25, t89_28, t89_29, t89_32, t89_33, t89_35, t89_38, t89_39, t89_40, t89_43, t89_44, t89_45, t89_48, t89_49, t89_51, t89_54, t89_55, t89_56, t89_57, t89_60, t89_61, t89_62, t89_63, t89_66, t89_69, t89_70, t89_71, t89_72, t89_73, t89_74, t89_75, t89_78, t89_79, t89_80, t89_82, t89_85, t89_86, t89_87, t89_88, t89_89, t89_90, t89_93, t89_94, t89_97, t89_100, t89_101, t89_104, lk_s, hp_get, hp_set, uH_at, uH_ne, uH_upd, uH_swap, iZ_add, iZ_sub, iZ_mul, iZ_neg, iZ_lt, iZ_le, iZ_eq, iZ_div, iZ_of, ix_Z, gZ_map, gZ_mapI, gZ_map', le_0, le_s, sZ_map, sZ_len, bZ_0, bZ_inj, bZ_t, bZ_f, nr_i, nr_0, nr_1, nr_b, ft_i, ft_b, ft_0, ft_1, zl_0, zl_1, zl_61, zl_124, zl_126, m0, m1, hk2, q3, g1, hF141, mm1, mm2, mm3, mm4, -List.filter_filter, -List.getElem?_map, -List.getD_eq_getElem?_getD]
  · rw [if_neg hq]
    rw [decide_eq_false hq, bZ_f] at X13_
    have in1 : ∀ s ∈ (lC D k).2, s ≠ 99 := fun s hs => by
      obtain ⟨s0, r0, e0⟩ : ∃ s0 r0, (lC D k).2 = s0 :: r0 := by
        cases hh : (lC D k).2 with
        | nil => rw [hh] at hne; simp at hne
        | cons s0 r0 => exact ⟨s0, r0, rfl⟩
      rw [e0] at hs hq
      rcases List.mem_cons.mp hs with hs | hs
      · rw [hs]
        exact hq
      · exact hnx s0 r0 e0 s hs
    obtain ⟨w1, N1, i1, i2⟩ := S90 (sb := sb) (a := a) (D := D) d 40 (stC D k) 0 w N L hF hS (by omega) (by rw [et0]; exact hT) (by rw [et0]; omega) (by rw [et0]; omega) (by rw [et0]; exact in1) (by rw [et0]; omega)
    rw [et0] at i1 i2
    obtain ⟨lv', j1, j2⟩ := fin (w1 := w1) (N1 := N1) L3
    refine ⟨w1, N1, lv', i1, j1, fun res hres => g61 _ ?_⟩
    obtain ⟨c3, m0, m1, m2⟩ := L3
    rw [← hst, show ((0 : Nat) : Int) = 0 from rfl] at i2
    have hk2 : x_lk lv3 2 = some (.int (iZ (k : Int))) := m2
    obtain ⟨kk, hkk⟩ : ∃ kk : Int, kk = (k : Int) := ⟨_, rfl⟩
    rw [← hkk] at hk2 X13_
    obtain ⟨en, hen⟩ : ∃ en : Int, en = ((stC D k + (lC D k).2.length : Nat) : Int) := ⟨_, rfl⟩
    rw [← hen] at i2
    refine Gx.run 60 (X13_.and i2) (fun X mm => ?_) (j2 _ hres)
    obtain ⟨mm1, mm2⟩ := mm
    simp (disch := first | (refine c1_id ?_; assumption) | (refine c1_st rfl ?_; repeat (first | assumption | refine c1_st rfl ?_)) | omega) [nx_l, nx_r, nx_n, x_st, x_push, x_bin, x_div, x_un, x_dup, x_pop, x_dup2, x_goto, x_ifeq, x_ifne, x_iflt, x_ifge, x_ifgt, x_ifle, x_iceq, x_icne, x_iclt, x_icge, x_icgt, x_icle, x_ifnull, x_ifnonnull, x_ldi, x_lda, x_sti, x_sta, x_iinc, x_gf, x_pf, x_ald, x_ast, x_aln, x_len, x_cl_, x_cv, x_cs, x_rc, x_r0, x_isT, x_oi, x_rv, x_ri, x_ra, Value.category, t89_0, t89_1, t89_4, t89_7, t89_9, t89_10, t89_13, t89_14, t89_17, t89_18, t89_19, t89_20, t89_21, t89_22, t89_25, t89_28, t89_29, t89_32, t89_33, t89_35, t89_38, t89_39, t89_40, t89_43, t89_44, t89_45, t89_48, t89_49, t89_51, t89_54, t89_55, t89_56, t89_57, t89_60, t89_61, t89_62, t89_63, t89_66, t89_69, t89_70, t89_71, t89_72, t89_73, t89_74, t89_75, t89_78, t89_79, t89_80, t89_82, t89_85, t89_86, t89_87, t89_88, t89_89, t89_90, t89_93, t89_94, t89_97, t89_100, t89_101, t89_104, lk_s, hp_get, hp_set, uH_at, uH_ne, uH_upd, uH_swap, iZ_add, iZ_sub, iZ_mul, iZ_neg, iZ_lt, iZ_le, iZ_eq, iZ_div, iZ_of, ix_Z, gZ_map, gZ_mapI, gZ_map', le_0, le_s, sZ_map, sZ_len, bZ_0, bZ_inj, bZ_t, bZ_f, nr_i, nr_0, nr_1, nr_b, ft_i, ft_b, ft_0, ft_1, zl_0, zl_1, zl_61, zl_124, zl_126, m0, m1, hk2, q3, g1, hF14, mm1, mm2, -List.filter_filter, -List.getElem?_map, -List.getD_eq_getElem?_getD]
end TX2
