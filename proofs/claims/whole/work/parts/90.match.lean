/-! the reference: a literal is held against another -/
theorem f128_0 : x_fetch q_k128 0 = x_ldi 1 1 := rfl
theorem t128_0 (C : xF) (s n : Nat) (z : xS) : x_to q_k128 C s (n + 1) 0 z = x_nx q_k128 C s n ((x_ldi 1 1) C z) := x_to_at f128_0 C s n z
theorem f128_1 : x_fetch q_k128 1 = x_sti 2 3 := rfl
theorem t128_1 (C : xF) (s n : Nat) (z : xS) : x_to q_k128 C s (n + 1) 1 z = x_nx q_k128 C s n ((x_sti 2 3) C z) := x_to_at f128_1 C s n z
theorem f128_2 : x_fetch q_k128 2 = x_ldi 3 2 := rfl
theorem t128_2 (C : xF) (s n : Nat) (z : xS) : x_to q_k128 C s (n + 1) 2 z = x_nx q_k128 C s n ((x_ldi 3 2) C z) := x_to_at f128_2 C s n z
theorem f128_3 : x_fetch q_k128 3 = x_sti 5 4 := rfl
theorem t128_3 (C : xF) (s n : Nat) (z : xS) : x_to q_k128 C s (n + 1) 3 z = x_nx q_k128 C s n ((x_sti 5 4) C z) := x_to_at f128_3 C s n z
theorem f128_5 : x_fetch q_k128 5 = x_lda 6 0 := rfl
theorem t128_5 (C : xF) (s n : Nat) (z : xS) : x_to q_k128 C s (n + 1) 5 z = x_nx q_k128 C s n ((x_lda 6 0) C z) := x_to_at f128_5 C s n z
theorem f128_6 : x_fetch q_k128 6 = x_ldi 7 1 := rfl
theorem t128_6 (C : xF) (s n : Nat) (z : xS) : x_to q_k128 C s (n + 1) 6 z = x_nx q_k128 C s n ((x_ldi 7 1) C z) := x_to_at f128_6 C s n z
theorem f128_7 : x_fetch q_k128 7 = x_cv 10 109 2 8 := rfl
theorem t128_7 (C : xF) (s n : Nat) (z : xS) : x_to q_k128 C s (n + 1) 7 z = x_nx q_k128 C s n ((x_cv 10 109 2 8) C z) := x_to_at f128_7 C s n z
theorem f128_10 : x_fetch q_k128 10 = x_sti 12 5 := rfl
theorem t128_10 (C : xF) (s n : Nat) (z : xS) : x_to q_k128 C s (n + 1) 10 z = x_nx q_k128 C s n ((x_sti 12 5) C z) := x_to_at f128_10 C s n z
theorem f128_12 : x_fetch q_k128 12 = x_st (x_push 13 (.int (1))) := rfl
theorem t128_12 (C : xF) (s n : Nat) (z : xS) : x_to q_k128 C s (n + 1) 12 z = x_nx q_k128 C s n ((x_st (x_push 13 (.int (1)))) C z) := x_to_at f128_12 C s n z
theorem f128_13 : x_fetch q_k128 13 = x_sti 15 6 := rfl
theorem t128_13 (C : xF) (s n : Nat) (z : xS) : x_to q_k128 C s (n + 1) 13 z = x_nx q_k128 C s n ((x_sti 15 6) C z) := x_to_at f128_13 C s n z
theorem f128_15 : x_fetch q_k128 15 = x_ldi 16 3 := rfl
theorem t128_15 (C : xF) (s n : Nat) (z : xS) : x_to q_k128 C s (n + 1) 15 z = x_nx q_k128 C s n ((x_ldi 16 3) C z) := x_to_at f128_15 C s n z
theorem f128_16 : x_fetch q_k128 16 = x_ldi 18 5 := rfl
theorem t128_16 (C : xF) (s n : Nat) (z : xS) : x_to q_k128 C s (n + 1) 16 z = x_nx q_k128 C s n ((x_ldi 18 5) C z) := x_to_at f128_16 C s n z
theorem f128_18 : x_fetch q_k128 18 = x_st (x_icge 114 21) := rfl
theorem t128_18 (C : xF) (s n : Nat) (z : xS) : x_to q_k128 C s (n + 1) 18 z = x_nx q_k128 C s n ((x_st (x_icge 114 21)) C z) := x_to_at f128_18 C s n z
theorem f128_21 : x_fetch q_k128 21 = x_ldi 23 6 := rfl
theorem t128_21 (C : xF) (s n : Nat) (z : xS) : x_to q_k128 C s (n + 1) 21 z = x_nx q_k128 C s n ((x_ldi 23 6) C z) := x_to_at f128_21 C s n z
theorem f128_23 : x_fetch q_k128 23 = x_st (x_ifeq 114 26) := rfl
theorem t128_23 (C : xF) (s n : Nat) (z : xS) : x_to q_k128 C s (n + 1) 23 z = x_nx q_k128 C s n ((x_st (x_ifeq 114 26)) C z) := x_to_at f128_23 C s n z
theorem f128_26 : x_fetch q_k128 26 = x_lda 27 0 := rfl
theorem t128_26 (C : xF) (s n : Nat) (z : xS) : x_to q_k128 C s (n + 1) 26 z = x_nx q_k128 C s n ((x_lda 27 0) C z) := x_to_at f128_26 C s n z
theorem f128_27 : x_fetch q_k128 27 = x_gf 30 8 29 := rfl
theorem t128_27 (C : xF) (s n : Nat) (z : xS) : x_to q_k128 C s (n + 1) 27 z = x_nx q_k128 C s n ((x_gf 30 8 29) C z) := x_to_at f128_27 C s n z
theorem f128_30 : x_fetch q_k128 30 = x_ldi 31 3 := rfl
theorem t128_30 (C : xF) (s n : Nat) (z : xS) : x_to q_k128 C s (n + 1) 30 z = x_nx q_k128 C s n ((x_ldi 31 3) C z) := x_to_at f128_30 C s n z
theorem f128_31 : x_fetch q_k128 31 = x_ald 32 0 := rfl
theorem t128_31 (C : xF) (s n : Nat) (z : xS) : x_to q_k128 C s (n + 1) 31 z = x_nx q_k128 C s n ((x_ald 32 0) C z) := x_to_at f128_31 C s n z
theorem f128_32 : x_fetch q_k128 32 = x_sti 34 7 := rfl
theorem t128_32 (C : xF) (s n : Nat) (z : xS) : x_to q_k128 C s (n + 1) 32 z = x_nx q_k128 C s n ((x_sti 34 7) C z) := x_to_at f128_32 C s n z
theorem f128_34 : x_fetch q_k128 34 = x_ldi 36 7 := rfl
theorem t128_34 (C : xF) (s n : Nat) (z : xS) : x_to q_k128 C s (n + 1) 34 z = x_nx q_k128 C s n ((x_ldi 36 7) C z) := x_to_at f128_34 C s n z
theorem f128_36 : x_fetch q_k128 36 = x_st (x_push 38 (.int (99))) := rfl
theorem t128_36 (C : xF) (s n : Nat) (z : xS) : x_to q_k128 C s (n + 1) 36 z = x_nx q_k128 C s n ((x_st (x_push 38 (.int (99)))) C z) := x_to_at f128_36 C s n z
theorem f128_38 : x_fetch q_k128 38 = x_st (x_icge 86 41) := rfl
theorem t128_38 (C : xF) (s n : Nat) (z : xS) : x_to q_k128 C s (n + 1) 38 z = x_nx q_k128 C s n ((x_st (x_icge 86 41)) C z) := x_to_at f128_38 C s n z
theorem f128_41 : x_fetch q_k128 41 = x_lda 42 0 := rfl
theorem t128_41 (C : xF) (s n : Nat) (z : xS) : x_to q_k128 C s (n + 1) 41 z = x_nx q_k128 C s n ((x_lda 42 0) C z) := x_to_at f128_41 C s n z
theorem f128_42 : x_fetch q_k128 42 = x_gf 45 8 30 := rfl
theorem t128_42 (C : xF) (s n : Nat) (z : xS) : x_to q_k128 C s (n + 1) 42 z = x_nx q_k128 C s n ((x_gf 45 8 30) C z) := x_to_at f128_42 C s n z
theorem f128_45 : x_fetch q_k128 45 = x_ldi 47 7 := rfl
theorem t128_45 (C : xF) (s n : Nat) (z : xS) : x_to q_k128 C s (n + 1) 45 z = x_nx q_k128 C s n ((x_ldi 47 7) C z) := x_to_at f128_45 C s n z
theorem f128_47 : x_fetch q_k128 47 = x_ald 48 0 := rfl
theorem t128_47 (C : xF) (s n : Nat) (z : xS) : x_to q_k128 C s (n + 1) 47 z = x_nx q_k128 C s n ((x_ald 48 0) C z) := x_to_at f128_47 C s n z
theorem f128_48 : x_fetch q_k128 48 = x_st (x_ifge 60 51) := rfl
theorem t128_48 (C : xF) (s n : Nat) (z : xS) : x_to q_k128 C s (n + 1) 48 z = x_nx q_k128 C s n ((x_st (x_ifge 60 51)) C z) := x_to_at f128_48 C s n z
theorem f128_51 : x_fetch q_k128 51 = x_lda 52 0 := rfl
theorem t128_51 (C : xF) (s n : Nat) (z : xS) : x_to q_k128 C s (n + 1) 51 z = x_nx q_k128 C s n ((x_lda 52 0) C z) := x_to_at f128_51 C s n z
theorem f128_52 : x_fetch q_k128 52 = x_gf 55 8 30 := rfl
theorem t128_52 (C : xF) (s n : Nat) (z : xS) : x_to q_k128 C s (n + 1) 52 z = x_nx q_k128 C s n ((x_gf 55 8 30) C z) := x_to_at f128_52 C s n z
theorem f128_55 : x_fetch q_k128 55 = x_ldi 57 7 := rfl
theorem t128_55 (C : xF) (s n : Nat) (z : xS) : x_to q_k128 C s (n + 1) 55 z = x_nx q_k128 C s n ((x_ldi 57 7) C z) := x_to_at f128_55 C s n z
theorem f128_57 : x_fetch q_k128 57 = x_ldi 59 4 := rfl
theorem t128_57 (C : xF) (s n : Nat) (z : xS) : x_to q_k128 C s (n + 1) 57 z = x_nx q_k128 C s n ((x_ldi 59 4) C z) := x_to_at f128_57 C s n z
theorem f128_59 : x_fetch q_k128 59 = x_ast 60 0 (fun x => x) := rfl
theorem t128_59 (C : xF) (s n : Nat) (z : xS) : x_to q_k128 C s (n + 1) 59 z = x_nx q_k128 C s n ((x_ast 60 0 (fun x => x)) C z) := x_to_at f128_59 C s n z
theorem f128_60 : x_fetch q_k128 60 = x_lda 61 0 := rfl
theorem t128_60 (C : xF) (s n : Nat) (z : xS) : x_to q_k128 C s (n + 1) 60 z = x_nx q_k128 C s n ((x_lda 61 0) C z) := x_to_at f128_60 C s n z
theorem f128_61 : x_fetch q_k128 61 = x_lda 62 0 := rfl
theorem t128_61 (C : xF) (s n : Nat) (z : xS) : x_to q_k128 C s (n + 1) 61 z = x_nx q_k128 C s n ((x_lda 62 0) C z) := x_to_at f128_61 C s n z
theorem f128_62 : x_fetch q_k128 62 = x_gf 65 8 30 := rfl
theorem t128_62 (C : xF) (s n : Nat) (z : xS) : x_to q_k128 C s (n + 1) 62 z = x_nx q_k128 C s n ((x_gf 65 8 30) C z) := x_to_at f128_62 C s n z
theorem f128_65 : x_fetch q_k128 65 = x_ldi 67 7 := rfl
theorem t128_65 (C : xF) (s n : Nat) (z : xS) : x_to q_k128 C s (n + 1) 65 z = x_nx q_k128 C s n ((x_ldi 67 7) C z) := x_to_at f128_65 C s n z
theorem f128_67 : x_fetch q_k128 67 = x_ald 68 0 := rfl
theorem t128_67 (C : xF) (s n : Nat) (z : xS) : x_to q_k128 C s (n + 1) 67 z = x_nx q_k128 C s n ((x_ald 68 0) C z) := x_to_at f128_67 C s n z
theorem f128_68 : x_fetch q_k128 68 = x_ldi 70 4 := rfl
theorem t128_68 (C : xF) (s n : Nat) (z : xS) : x_to q_k128 C s (n + 1) 68 z = x_nx q_k128 C s n ((x_ldi 70 4) C z) := x_to_at f128_68 C s n z
theorem f128_70 : x_fetch q_k128 70 = x_cv 73 129 3 8 := rfl
theorem t128_70 (C : xF) (s n : Nat) (z : xS) : x_to q_k128 C s (n + 1) 70 z = x_nx q_k128 C s n ((x_cv 73 129 3 8) C z) := x_to_at f128_70 C s n z
theorem f128_73 : x_fetch q_k128 73 = x_sti 75 6 := rfl
theorem t128_73 (C : xF) (s n : Nat) (z : xS) : x_to q_k128 C s (n + 1) 73 z = x_nx q_k128 C s n ((x_sti 75 6) C z) := x_to_at f128_73 C s n z
theorem f128_75 : x_fetch q_k128 75 = x_lda 76 0 := rfl
theorem t128_75 (C : xF) (s n : Nat) (z : xS) : x_to q_k128 C s (n + 1) 75 z = x_nx q_k128 C s n ((x_lda 76 0) C z) := x_to_at f128_75 C s n z
theorem f128_76 : x_fetch q_k128 76 = x_ldi 78 4 := rfl
theorem t128_76 (C : xF) (s n : Nat) (z : xS) : x_to q_k128 C s (n + 1) 76 z = x_nx q_k128 C s n ((x_ldi 78 4) C z) := x_to_at f128_76 C s n z
theorem f128_78 : x_fetch q_k128 78 = x_cv 81 109 2 8 := rfl
theorem t128_78 (C : xF) (s n : Nat) (z : xS) : x_to q_k128 C s (n + 1) 78 z = x_nx q_k128 C s n ((x_cv 81 109 2 8) C z) := x_to_at f128_78 C s n z
theorem f128_81 : x_fetch q_k128 81 = x_sti 83 4 := rfl
theorem t128_81 (C : xF) (s n : Nat) (z : xS) : x_to q_k128 C s (n + 1) 81 z = x_nx q_k128 C s n ((x_sti 83 4) C z) := x_to_at f128_81 C s n z
theorem f128_83 : x_fetch q_k128 83 = x_st (x_goto 108) := rfl
theorem t128_83 (C : xF) (s n : Nat) (z : xS) : x_to q_k128 C s (n + 1) 83 z = x_nx q_k128 C s n ((x_st (x_goto 108)) C z) := x_to_at f128_83 C s n z
theorem f128_86 : x_fetch q_k128 86 = x_ldi 88 7 := rfl
theorem t128_86 (C : xF) (s n : Nat) (z : xS) : x_to q_k128 C s (n + 1) 86 z = x_nx q_k128 C s n ((x_ldi 88 7) C z) := x_to_at f128_86 C s n z
theorem f128_88 : x_fetch q_k128 88 = x_lda 89 0 := rfl
theorem t128_88 (C : xF) (s n : Nat) (z : xS) : x_to q_k128 C s (n + 1) 88 z = x_nx q_k128 C s n ((x_lda 89 0) C z) := x_to_at f128_88 C s n z
theorem f128_89 : x_fetch q_k128 89 = x_gf 92 8 29 := rfl
theorem t128_89 (C : xF) (s n : Nat) (z : xS) : x_to q_k128 C s (n + 1) 89 z = x_nx q_k128 C s n ((x_gf 92 8 29) C z) := x_to_at f128_89 C s n z
theorem f128_92 : x_fetch q_k128 92 = x_ldi 94 4 := rfl
theorem t128_92 (C : xF) (s n : Nat) (z : xS) : x_to q_k128 C s (n + 1) 92 z = x_nx q_k128 C s n ((x_ldi 94 4) C z) := x_to_at f128_92 C s n z
theorem f128_94 : x_fetch q_k128 94 = x_ald 95 0 := rfl
theorem t128_94 (C : xF) (s n : Nat) (z : xS) : x_to q_k128 C s (n + 1) 94 z = x_nx q_k128 C s n ((x_ald 95 0) C z) := x_to_at f128_94 C s n z
theorem f128_95 : x_fetch q_k128 95 = x_st (x_icne 102 98) := rfl
theorem t128_95 (C : xF) (s n : Nat) (z : xS) : x_to q_k128 C s (n + 1) 95 z = x_nx q_k128 C s n ((x_st (x_icne 102 98)) C z) := x_to_at f128_95 C s n z
theorem f128_98 : x_fetch q_k128 98 = x_st (x_push 99 (.int (1))) := rfl
theorem t128_98 (C : xF) (s n : Nat) (z : xS) : x_to q_k128 C s (n + 1) 98 z = x_nx q_k128 C s n ((x_st (x_push 99 (.int (1)))) C z) := x_to_at f128_98 C s n z
theorem f128_99 : x_fetch q_k128 99 = x_st (x_goto 103) := rfl
theorem t128_99 (C : xF) (s n : Nat) (z : xS) : x_to q_k128 C s (n + 1) 99 z = x_nx q_k128 C s n ((x_st (x_goto 103)) C z) := x_to_at f128_99 C s n z
theorem f128_102 : x_fetch q_k128 102 = x_st (x_push 103 (.int (0))) := rfl
theorem t128_102 (C : xF) (s n : Nat) (z : xS) : x_to q_k128 C s (n + 1) 102 z = x_nx q_k128 C s n ((x_st (x_push 103 (.int (0)))) C z) := x_to_at f128_102 C s n z
theorem f128_103 : x_fetch q_k128 103 = x_sti 105 6 := rfl
theorem t128_103 (C : xF) (s n : Nat) (z : xS) : x_to q_k128 C s (n + 1) 103 z = x_nx q_k128 C s n ((x_sti 105 6) C z) := x_to_at f128_103 C s n z
theorem f128_105 : x_fetch q_k128 105 = x_iinc 108 4 (1) := rfl
theorem t128_105 (C : xF) (s n : Nat) (z : xS) : x_to q_k128 C s (n + 1) 105 z = x_nx q_k128 C s n ((x_iinc 108 4 (1)) C z) := x_to_at f128_105 C s n z
theorem f128_108 : x_fetch q_k128 108 = x_iinc 111 3 (1) := rfl
theorem t128_108 (C : xF) (s n : Nat) (z : xS) : x_to q_k128 C s (n + 1) 108 z = x_nx q_k128 C s n ((x_iinc 111 3 (1)) C z) := x_to_at f128_108 C s n z
theorem f128_111 : x_fetch q_k128 111 = x_st (x_goto 15) := rfl
theorem t128_111 (C : xF) (s n : Nat) (z : xS) : x_to q_k128 C s (n + 1) 111 z = x_nx q_k128 C s n ((x_st (x_goto 15)) C z) := x_to_at f128_111 C s n z
theorem f128_114 : x_fetch q_k128 114 = x_ldi 116 6 := rfl
theorem t128_114 (C : xF) (s n : Nat) (z : xS) : x_to q_k128 C s (n + 1) 114 z = x_nx q_k128 C s n ((x_ldi 116 6) C z) := x_to_at f128_114 C s n z
theorem f128_116 : x_fetch q_k128 116 = x_ri (.boolean) := rfl
theorem t128_116 (C : xF) (s n : Nat) (z : xS) : x_to q_k128 C s (n + 1) 116 z = x_nx q_k128 C s n ((x_ri (.boolean)) C z) := x_to_at f128_116 C s n z
def bU (b : Int → List Int) (v : Int) (t : List Int) : Int → List Int := fun u => if u = v then t else b u
def mtT : List Int → List Int → (Int → List Int) → Option (Int → List Int)
  | [], _, b => some b
  | s :: p, q, b => if s < 99 then (if b s = [] then mtT p (q.drop (tk 1 q).length) (bU b s (tk 1 q)) else if b s = tk 1 q then mtT p (q.drop (tk 1 q).length) b else none)
    else match q with
    | [] => none
    | s' :: q' => if s = s' then mtT p q' b else none
theorem tk_sp {n : Nat} {Q : List Int} (h : Ts (n + 1) Q) : Ts 1 (tk 1 Q) ∧ Ts n (Q.drop (tk 1 Q).length) ∧ Q = tk 1 Q ++ Q.drop (tk 1 Q).length := by
  rw [Nat.add_comm] at h
  obtain ⟨a, b, e, ha, hb⟩ := Ts_split h
  have e1 : tk 1 Q = a := by
    rw [e]
    exact tk_app ha
  have e2 : Q.drop (tk 1 Q).length = b := by
    rw [e1, e, List.drop_left]
  rw [e1] at e2 ⊢
  rw [e2]
  exact ⟨ha, hb, e⟩
theorem seg_dr {S Q : List Int} {q f : Int} (h0 : 0 ≤ q) (h : seg S q f = Q) : ∃ r, S.drop q.toNat = Q ++ r := by
  refine ⟨(S.drop q.toNat).drop (f.toNat - q.toNat), ?_⟩
  rw [← h]
  unfold seg
  exact (List.take_append_drop _ _).symm
theorem seg_tk {S Q : List Int} {q f : Int} {n : Nat} (h0 : 0 ≤ q) (h : seg S q f = Q) (hT : Ts (n + 1) Q) : tm S q.toNat = tk 1 Q := by
  obtain ⟨r, e⟩ := seg_dr h0 h
  obtain ⟨a1, a2, a3⟩ := tk_sp hT
  unfold tm
  rw [e]
  have e2 : Q ++ r = tk 1 Q ++ (Q.drop (tk 1 Q).length ++ r) := by rw [← List.append_assoc, ← a3]
  rw [e2]
  exact tk_app a1
theorem seg_drop {S Q : List Int} {q f : Int} (h0 : 0 ≤ q) (hf : f ≤ S.length) (h : seg S q f = Q) (hl : q + Q.length = f) {i : Nat} (hi : i ≤ Q.length) : seg S (q + i) f = Q.drop i := by
  subst hl
  have := seg_seg h0 h (i := i) (j := Q.length) hi (Nat.le_refl _)
  rw [List.take_of_length_le (by rw [List.length_drop]; omega)] at this
  exact this
theorem tm_get {S : List Int} {a : Int} (a0 : 0 ≤ a) {i : Nat} (hi : i < (tm S a.toNat).length) : gZ S (a + i) = (tm S a.toNat).getD i 0 := by
  obtain ⟨b, e⟩ := tk_pre (S.drop a.toNat) 1
  have e' : S.drop a.toNat = tm S a.toNat ++ b := e
  unfold gZ
  rw [List.getD_eq_getElem?_getD, List.getD_eq_getElem?_getD, show (a + (i : Int)).toNat = a.toNat + i by omega, ← List.getElem?_drop, e', List.getElem?_append_left hi]
/-- two terms among the places: alike as long as the first goes, then the same -/
theorem tm_alike {S : List Int} {a b : Int} (a0 : 0 ≤ a) (b0 : 0 ≤ b) (ha : Ts 1 (tm S a.toNat)) (hb : Ts 1 (tm S b.toNat)) {k : Nat} (hk : (tm S b.toNat).length ≤ k) (hk2 : k ≤ (tm S a.toNat).length) (he : ∀ i : Nat, i < k → gZ S (a + i) = gZ S (b + i)) : tm S a.toNat = tm S b.toNat := by
  have e : (tm S a.toNat).take (tm S b.toNat).length = tm S b.toNat := by
    refine getD_ext (by rw [List.length_take]; omega) (fun i hi => ?_)
    rw [List.length_take] at hi
    rw [List.getD_eq_getElem?_getD, List.getElem?_take_of_lt (by omega), ← List.getD_eq_getElem?_getD, ← tm_get a0 (by omega), ← tm_get b0 (by omega)]
    exact he i (by omega)
  have e2 : tm S a.toNat ++ [] = tm S b.toNat ++ (tm S a.toNat).drop (tm S b.toNat).length := by
    rw [List.append_nil]
    have := (List.take_append_drop (tm S b.toNat).length (tm S a.toNat)).symm
    rw [e] at this
    exact this
  exact (Ts_uniq ha hb e2).1
section MA
variable {w : Nat → xC} {N : Nat} {m : Nat → Int} {S : List Int}
theorem l129p (d : Nat) (hN : 53 ≤ N) (hm : w 27 = .inr (8, mF m)) (hS : w 45 = cI 0 S) (s1 : S.length = 160) (hr : ∀ i, 0 ≤ gZ S i ∧ gZ S i < 100000) (a b n : Int) (a0 : 0 ≤ a) (b0 : 0 ≤ b) (a1 : a + n ≤ 160) (hb : ∀ k : Nat, (k : Int) < n → (∀ i : Nat, i < k → gZ S (a + i) = gZ S (b + i)) → b + k < 160) : ∀ (r : Nat) (k : Int) (lv : xL), k + r = n → 0 ≤ k → (∀ i : Nat, (i : Int) < k → gZ S (a + i) = gZ S (b + i)) → c1 lv → x_lk lv 0 = some (.ref 30) → x_lk lv 1 = some (.int (iZ a)) → x_lk lv 2 = some (.int (iZ b)) → x_lk lv 3 = some (.int (iZ 1)) → x_lk lv 4 = some (.int (iZ n)) → x_lk lv 5 = some (.int (iZ k)) →
    Gx q_k129 d 14 (lv, [], hp w N) (some (.int (iZ (bZ (ssZ S (a + k) (b + k) r)))), hp w N) := by
  intro r
  induction r with
  | zero =>
    intro k lv hk k0 he hc l0 l1 l2 l3 l4 l5
    refine Gx.fin 20 Cs.tt (fun C _ => ?_)
    have q1 : n ≤ k := by omega
    have q : ssZ S (a + k) (b + k) 0 = true := rfl
    simp (disch := first | (refine c1_id ?_; assumption) | (refine c1_st rfl ?_; repeat (first | assumption | refine c1_st rfl ?_)) | omega) [nx_l, nx_r, nx_n, x_st, x_push, x_bin, x_div, x_un, x_dup, x_pop, x_dup2, x_goto, x_ifeq, x_ifne, x_iflt, x_ifge, x_ifgt, x_ifle, x_iceq, x_icne, x_iclt, x_icge, x_icgt, x_icle, x_ifnull, x_ifnonnull, x_ldi, x_lda, x_sti, x_sta, x_iinc, x_gf, x_pf, x_ald, x_ast, x_aln, x_len, x_cl_, x_cv, x_cs, x_rc, x_r0, x_isT, x_oi, x_rv, x_ri, x_ra, Value.category, t129_0, t129_1, t129_2, t129_3, t129_4, t129_7, t129_8, t129_9, t129_11, t129_12, t129_14, t129_16, t129_18, t129_21, t129_22, t129_25, t129_26, t129_29, t129_30, t129_32, t129_33, t129_34, t129_35, t129_38, t129_39, t129_41, t129_42, t129_43, t129_46, t129_47, t129_50, t129_51, t129_52, t129_55, t129_58, t129_59, lk_s, hp_get, hp_set, uH_at, uH_ne, uH_upd, uH_swap, iZ_add, iZ_sub, iZ_mul, iZ_neg, iZ_lt, iZ_le, iZ_eq, iZ_div, iZ_of, ix_Z, gZ_map, gZ_mapI, gZ_map', le_0, le_s, sZ_map, sZ_len, bZ_0, bZ_inj, bZ_t, bZ_f, nr_i, nr_0, nr_1, nr_b, ft_i, ft_b, ft_0, ft_1, zl_0, zl_1, mF_len, mg_0, mg_1, mg_2, mg_3, mg_4, mg_5, mg_6, mg_7, mg_8, mg_9, mg_10, mg_11, mg_12, mg_13, mg_14, mg_15, mg_16, mg_17, mg_18, mg_19, mg_20, mg_21, mg_22, mg_23, mg_24, mg_25, mg_26, mg_27, mg_28, mg_29, mg_30, mg_31, mg_32, mg_33, mg_34, mg_35, mg_36, mg_37, mg_38, ms_0, ms_1, ms_2, ms_13, ms_14, ms_15, ms_16, ms_21, ms_22, ms_23, ms_24, ms_28, ms_36, ms_37, ms_38, st_at, st_ne, st_st, st_swap, l0, l3, l4, l5, q1, q, -List.filter_filter, -List.getElem?_map, -List.getD_eq_getElem?_getD]
  | succ r ih =>
    intro k lv hk k0 he hc l0 l1 l2 l3 l4 l5
    have q1 : ¬ n ≤ k := by omega
    have z1 := hr (a + k)
    have z2 := hr (b + k)
    have bk : b + k < 160 := by
      have := hb k.toNat (by omega) (fun i hi => he i (by omega))
      omega
    by_cases h : gZ S (a + k) = gZ S (b + k)
    · have q : ssZ S (a + k) (b + k) (r + 1) = ssZ S (a + (k + 1)) (b + (k + 1)) r := by
        show (decide (gZ S (a + k) = gZ S (b + k)) && ssZ S (a + k + 1) (b + k + 1) r) = _
        rw [decide_eq_true h, Int.add_assoc, Int.add_assoc]
        rfl
      rw [q]
      have C1 := c1_st (i := 3) (v := .int (iZ 1)) rfl hc
      have C2 := c1_st (i := 5) (v := .int (iZ (k + 1))) rfl C1
      have k3 := ih (k + 1) _ (by omega) (by omega) (fun i hi => by
        by_cases e : (i : Int) = k
        · rw [e]
          exact h
        · exact he i (by omega)) C2 (by rw [lk_s C1, lk_s hc]; exact l0) (by rw [lk_s C1, lk_s hc]; exact l1) (by rw [lk_s C1, lk_s hc]; exact l2) (by rw [lk_s C1, lk_s hc]; rfl) (by rw [lk_s C1, lk_s hc]; exact l4) (by rw [lk_s C1]; rfl)
      refine Gx.run 60 Cs.tt (fun C _ => ?_) k3
      simp (disch := first | (refine c1_id ?_; assumption) | (refine c1_st rfl ?_; repeat (first | assumption | refine c1_st rfl ?_)) | omega) [nx_l, nx_r, nx_n, x_st, x_push, x_bin, x_div, x_un, x_dup, x_pop, x_dup2, x_goto, x_ifeq, x_ifne, x_iflt, x_ifge, x_ifgt, x_ifle, x_iceq, x_icne, x_iclt, x_icge, x_icgt, x_icle, x_ifnull, x_ifnonnull, x_ldi, x_lda, x_sti, x_sta, x_iinc, x_gf, x_pf, x_ald, x_ast, x_aln, x_len, x_cl_, x_cv, x_cs, x_rc, x_r0, x_isT, x_oi, x_rv, x_ri, x_ra, Value.category, t129_0, t129_1, t129_2, t129_3, t129_4, t129_7, t129_8, t129_9, t129_11, t129_12, t129_14, t129_16, t129_18, t129_21, t129_22, t129_25, t129_26, t129_29, t129_30, t129_32, t129_33, t129_34, t129_35, t129_38, t129_39, t129_41, t129_42, t129_43, t129_46, t129_47, t129_50, t129_51, t129_52, t129_55, t129_58, t129_59, lk_s, hp_get, hp_set, uH_at, uH_ne, uH_upd, uH_swap, iZ_add, iZ_sub, iZ_mul, iZ_neg, iZ_lt, iZ_le, iZ_eq, iZ_div, iZ_of, ix_Z, gZ_map, gZ_mapI, gZ_map', le_0, le_s, sZ_map, sZ_len, bZ_0, bZ_inj, bZ_t, bZ_f, nr_i, nr_0, nr_1, nr_b, ft_i, ft_b, ft_0, ft_1, zl_0, zl_1, mF_len, mg_0, mg_1, mg_2, mg_3, mg_4, mg_5, mg_6, mg_7, mg_8, mg_9, mg_10, mg_11, mg_12, mg_13, mg_14, mg_15, mg_16, mg_17, mg_18, mg_19, mg_20, mg_21, mg_22, mg_23, mg_24, mg_25, mg_26, mg_27, mg_28, mg_29, mg_30, mg_31, mg_32, mg_33, mg_34, mg_35, mg_36, mg_37, mg_38, ms_0, ms_1, ms_2, ms_13, ms_14, ms_15, ms_16, ms_21, ms_22, ms_23, ms_24, ms_28, ms_36, ms_37, ms_38, st_at, st_ne, st_st, st_swap, l0, l1, l2, l3, l4, l5, hm, hS, q1, h, -List.filter_filter, -List.getElem?_map, -List.getD_eq_getElem?_getD]
    · have q : ssZ S (a + k) (b + k) (r + 1) = false := by
        show (decide (gZ S (a + k) = gZ S (b + k)) && ssZ S (a + k + 1) (b + k + 1) r) = _
        rw [decide_eq_false h]
        rfl
      rw [q]
      refine Gx.fin 60 Cs.tt (fun C _ => ?_)
      by_cases q2 : n ≤ k + 1
      · simp (disch := first | (refine c1_id ?_; assumption) | (refine c1_st rfl ?_; repeat (first | assumption | refine c1_st rfl ?_)) | omega) [nx_l, nx_r, nx_n, x_st, x_push, x_bin, x_div, x_un, x_dup, x_pop, x_dup2, x_goto, x_ifeq, x_ifne, x_iflt, x_ifge, x_ifgt, x_ifle, x_iceq, x_icne, x_iclt, x_icge, x_icgt, x_icle, x_ifnull, x_ifnonnull, x_ldi, x_lda, x_sti, x_sta, x_iinc, x_gf, x_pf, x_ald, x_ast, x_aln, x_len, x_cl_, x_cv, x_cs, x_rc, x_r0, x_isT, x_oi, x_rv, x_ri, x_ra, Value.category, t129_0, t129_1, t129_2, t129_3, t129_4, t129_7, t129_8, t129_9, t129_11, t129_12, t129_14, t129_16, t129_18, t129_21, t129_22, t129_25, t129_26, t129_29, t129_30, t129_32, t129_33, t129_34, t129_35, t129_38, t129_39, t129_41, t129_42, t129_43, t129_46, t129_47, t129_50, t129_51, t129_52, t129_55, t129_58, t129_59, lk_s, hp_get, hp_set, uH_at, uH_ne, uH_upd, uH_swap, iZ_add, iZ_sub, iZ_mul, iZ_neg, iZ_lt, iZ_le, iZ_eq, iZ_div, iZ_of, ix_Z, gZ_map, gZ_mapI, gZ_map', le_0, le_s, sZ_map, sZ_len, bZ_0, bZ_inj, bZ_t, bZ_f, nr_i, nr_0, nr_1, nr_b, ft_i, ft_b, ft_0, ft_1, zl_0, zl_1, mF_len, mg_0, mg_1, mg_2, mg_3, mg_4, mg_5, mg_6, mg_7, mg_8, mg_9, mg_10, mg_11, mg_12, mg_13, mg_14, mg_15, mg_16, mg_17, mg_18, mg_19, mg_20, mg_21, mg_22, mg_23, mg_24, mg_25, mg_26, mg_27, mg_28, mg_29, mg_30, mg_31, mg_32, mg_33, mg_34, mg_35, mg_36, mg_37, mg_38, ms_0, ms_1, ms_2, ms_13, ms_14, ms_15, ms_16, ms_21, ms_22, ms_23, ms_24, ms_28, ms_36, ms_37, ms_38, st_at, st_ne, st_st, st_swap, l0, l1, l2, l3, l4, l5, hm, hS, q1, q2, h, -List.filter_filter, -List.getElem?_map, -List.getD_eq_getElem?_getD]
      · simp (disch := first | (refine c1_id ?_; assumption) | (refine c1_st rfl ?_; repeat (first | assumption | refine c1_st rfl ?_)) | omega) [nx_l, nx_r, nx_n, x_st, x_push, x_bin, x_div, x_un, x_dup, x_pop, x_dup2, x_goto, x_ifeq, x_ifne, x_iflt, x_ifge, x_ifgt, x_ifle, x_iceq, x_icne, x_iclt, x_icge, x_icgt, x_icle, x_ifnull, x_ifnonnull, x_ldi, x_lda, x_sti, x_sta, x_iinc, x_gf, x_pf, x_ald, x_ast, x_aln, x_len, x_cl_, x_cv, x_cs, x_rc, x_r0, x_isT, x_oi, x_rv, x_ri, x_ra, Value.category, t129_0, t129_1, t129_2, t129_3, t129_4, t129_7, t129_8, t129_9, t129_11, t129_12, t129_14, t129_16, t129_18, t129_21, t129_22, t129_25, t129_26, t129_29, t129_30, t129_32, t129_33, t129_34, t129_35, t129_38, t129_39, t129_41, t129_42, t129_43, t129_46, t129_47, t129_50, t129_51, t129_52, t129_55, t129_58, t129_59, lk_s, hp_get, hp_set, uH_at, uH_ne, uH_upd, uH_swap, iZ_add, iZ_sub, iZ_mul, iZ_neg, iZ_lt, iZ_le, iZ_eq, iZ_div, iZ_of, ix_Z, gZ_map, gZ_mapI, gZ_map', le_0, le_s, sZ_map, sZ_len, bZ_0, bZ_inj, bZ_t, bZ_f, nr_i, nr_0, nr_1, nr_b, ft_i, ft_b, ft_0, ft_1, zl_0, zl_1, mF_len, mg_0, mg_1, mg_2, mg_3, mg_4, mg_5, mg_6, mg_7, mg_8, mg_9, mg_10, mg_11, mg_12, mg_13, mg_14, mg_15, mg_16, mg_17, mg_18, mg_19, mg_20, mg_21, mg_22, mg_23, mg_24, mg_25, mg_26, mg_27, mg_28, mg_29, mg_30, mg_31, mg_32, mg_33, mg_34, mg_35, mg_36, mg_37, mg_38, ms_0, ms_1, ms_2, ms_13, ms_14, ms_15, ms_16, ms_21, ms_22, ms_23, ms_24, ms_28, ms_36, ms_37, ms_38, st_at, st_ne, st_st, st_swap, l0, l1, l2, l3, l4, l5, hm, hS, q1, q2, h, -List.filter_filter, -List.getElem?_map, -List.getD_eq_getElem?_getD]
theorem m129p (d : Nat) (hN : 53 ≤ N) (hm : w 27 = .inr (8, mF m)) (hS : w 45 = cI 0 S) (s1 : S.length = 160) (hr : ∀ i, 0 ≤ gZ S i ∧ gZ S i < 100000) (a b : Int) (a0 : 0 ≤ a) (b0 : 0 ≤ b) (aT : Ts 1 (tm S a.toNat)) (a1 : a + (tm S a.toNat).length ≤ 160) (bT : Ts 1 (tm S b.toNat)) (b1 : b + (tm S b.toNat).length ≤ 160) :
    Xc (d + 3) 129 [.ref 30, .int (iZ a), .int (iZ b)] (hp w N) (some (.int (iZ (bZ (decide (tm S a.toNat = tm S b.toNat))))), hp w N) := by
  have hb : ∀ k : Nat, (k : Int) < ((tm S a.toNat).length : Int) → (∀ i : Nat, i < k → gZ S (a + i) = gZ S (b + i)) → b + k < 160 := fun k hk he => by
    by_cases hk2 : k < (tm S b.toNat).length
    · omega
    · have := tm_alike a0 b0 aT bT (k := k) (by omega) (by omega) he
      rw [this] at hk
      omega
  have ev : ssZ S a b (tm S a.toNat).length = decide (tm S a.toNat = tm S b.toNat) := by
    rw [Bool.eq_iff_iff, ssZ_iff, decide_eq_true_iff]
    constructor
    · intro he
      by_cases hl : (tm S b.toNat).length ≤ (tm S a.toNat).length
      · exact tm_alike a0 b0 aT bT hl (Nat.le_refl _) he
      · exact (tm_alike b0 a0 bT aT (k := (tm S a.toNat).length) (Nat.le_refl _) (by omega) (fun i hi => (he i hi).symm)).symm
    · intro e i hi
      rw [tm_get a0 hi, tm_get b0 (by rw [← e]; exact hi), e]
  rw [← ev]
  have mm := m109 d (w := w) hN hm hS (by omega) hr a a0 aT
  refine Xc.of rfl (by simp [lg_sl, Value.category]) ?_ (x_le.rf)
  have hc : c1 (lv_args 0 [.ref 30, .int (iZ a), .int (iZ b)]) := by simp [c1, lv_args, Value.category]
  have l0 : x_lk (lv_args 0 [.ref 30, .int (iZ a), .int (iZ b)]) 0 = some (.ref 30) := rfl
  have l1 : x_lk (lv_args 0 [.ref 30, .int (iZ a), .int (iZ b)]) 1 = some (.int (iZ a)) := rfl
  have l2 : x_lk (lv_args 0 [.ref 30, .int (iZ a), .int (iZ b)]) 2 = some (.int (iZ b)) := rfl
  generalize lv_args 0 [.ref 30, .int (iZ a), .int (iZ b)] = lv at hc l0 l1 l2
  have C1 := c1_st (i := 3) (v := .int (iZ 1)) rfl hc
  have C2 := c1_st (i := 4) (v := .int (iZ ((tm S a.toNat).length : Int))) rfl C1
  have C3 := c1_st (i := 5) (v := .int (iZ 0)) rfl C2
  have k3 := l129p (d + 2) hN hm hS s1 hr a b ((tm S a.toNat).length : Int) a0 b0 a1 hb (tm S a.toNat).length 0 _ (by omega) (by omega) (fun i hi => by omega) C3 (by rw [lk_s C2, lk_s C1, lk_s hc]; exact l0) (by rw [lk_s C2, lk_s C1, lk_s hc]; exact l1) (by rw [lk_s C2, lk_s C1, lk_s hc]; exact l2) (by rw [lk_s C2, lk_s C1, lk_s hc]; rfl) (by rw [lk_s C2, lk_s C1]; rfl) (by rw [lk_s C2]; rfl)
  rw [Int.add_zero, Int.add_zero] at k3
  refine Gx.run 60 mm (fun C mm => ?_) k3
  have e : a + ((tm S a.toNat).length : Int) - a = ((tm S a.toNat).length : Int) := by omega
  simp (disch := first | (refine c1_id ?_; assumption) | (refine c1_st rfl ?_; repeat (first | assumption | refine c1_st rfl ?_)) | omega) [nx_l, nx_r, nx_n, x_st, x_push, x_bin, x_div, x_un, x_dup, x_pop, x_dup2, x_goto, x_ifeq, x_ifne, x_iflt, x_ifge, x_ifgt, x_ifle, x_iceq, x_icne, x_iclt, x_icge, x_icgt, x_icle, x_ifnull, x_ifnonnull, x_ldi, x_lda, x_sti, x_sta, x_iinc, x_gf, x_pf, x_ald, x_ast, x_aln, x_len, x_cl_, x_cv, x_cs, x_rc, x_r0, x_isT, x_oi, x_rv, x_ri, x_ra, Value.category, t129_0, t129_1, t129_2, t129_3, t129_4, t129_7, t129_8, t129_9, t129_11, t129_12, t129_14, t129_16, t129_18, t129_21, t129_22, t129_25, t129_26, t129_29, t129_30, t129_32, t129_33, t129_34, t129_35, t129_38, t129_39, t129_41, t129_42, t129_43, t129_46, t129_47, t129_50, t129_51, t129_52, t129_55, t129_58, t129_59, lk_s, hp_get, hp_set, uH_at, uH_ne, uH_upd, uH_swap, iZ_add, iZ_sub, iZ_mul, iZ_neg, iZ_lt, iZ_le, iZ_eq, iZ_div, iZ_of, ix_Z, gZ_map, gZ_mapI, gZ_map', le_0, le_s, sZ_map, sZ_len, bZ_0, bZ_inj, bZ_t, bZ_f, nr_i, nr_0, nr_1, nr_b, ft_i, ft_b, ft_0, ft_1, zl_0, zl_1, mF_len, mg_0, mg_1, mg_2, mg_3, mg_4, mg_5, mg_6, mg_7, mg_8, mg_9, mg_10, mg_11, mg_12, mg_13, mg_14, mg_15, mg_16, mg_17, mg_18, mg_19, mg_20, mg_21, mg_22, mg_23, mg_24, mg_25, mg_26, mg_27, mg_28, mg_29, mg_30, mg_31, mg_32, mg_33, mg_34, mg_35, mg_36, mg_37, mg_38, ms_0, ms_1, ms_2, ms_13, ms_14, ms_15, ms_16, ms_21, ms_22, ms_23, ms_24, ms_28, ms_36, ms_37, ms_38, st_at, st_ne, st_st, st_swap, l0, l1, l2, mm, hm, e, -List.filter_filter, -List.getElem?_map, -List.getD_eq_getElem?_getD]
def BM (S Bd : List Int) (b : Int → List Int) : Prop := Bd.length = 52 ∧ ∀ v, 0 ≤ v → v < 52 → -1 ≤ gZ Bd v ∧ gZ Bd v < 160 ∧ (gZ Bd v < 0 → b v = []) ∧ (0 ≤ gZ Bd v → tm S (gZ Bd v).toNat = b v ∧ Ts 1 (b v) ∧ gZ Bd v + (b v).length ≤ 160)
def MOk (d N : Nat) (S : List Int) (w : Nat → xC) (lv : xL) (o : Option (Int → List Int)) : Prop := ∃ (w' : Nat → xC) (Bd' : List Int), Fr [46] w w' ∧ w' 46 = cI 0 Bd' ∧ Bd'.length = 52 ∧ match o with
  | none => Gx q_k128 (d + 3) 15 (lv, [], hp w N) (some (.int (iZ 0)), hp w' N)
  | some b' => BM S Bd' b' ∧ Gx q_k128 (d + 3) 15 (lv, [], hp w N) (some (.int (iZ 1)), hp w' N)
set_option maxHeartbeats 2000000 in
theorem l128 (d : Nat) (hN : 53 ≤ N) (s1 : S.length = 160) (hr : ∀ i, 0 ≤ gZ S i ∧ gZ S i < 100000) (e f : Int) (e9 : e ≤ 160) (f9 : f ≤ 160) : ∀ (P : List Int) (n : Nat) (p q : Int) (Q : List Int) (b : Int → List Int) (Bd : List Int) (w : Nat → xC) (m : Nat → Int) (lv : xL), seg S p e = P → 0 ≤ p → p + P.length = e → seg S q f = Q → 0 ≤ q → q + Q.length = f → Ts n P → Ts n Q → (∀ s ∈ P, 0 ≤ s ∧ (s < 99 → s < 52)) → BM S Bd b → w 27 = .inr (8, mF m) → w 45 = cI 0 S → w 46 = cI 0 Bd → c1 lv → x_lk lv 0 = some (.ref 30) → x_lk lv 3 = some (.int (iZ p)) → x_lk lv 4 = some (.int (iZ q)) → x_lk lv 5 = some (.int (iZ e)) → x_lk lv 6 = some (.int (iZ 1)) → MOk d N S w lv (mtT P Q b) := by
  intro P
  induction P with
  | nil =>
    intro n p q Q b Bd w m lv hP p0 pe hQ q0 qf hT hU hs hB hm hS hBd hc l0 l3 l4 l5 l6
    have b1 : e ≤ p := by
      simp only [List.length_nil] at pe
      omega
    refine ⟨w, Bd, Fr.rf _ _, hBd, hB.1, hB, Gx.fin 20 Cs.tt (fun C _ => ?_)⟩
    simp (disch := first | (refine c1_id ?_; assumption) | (refine c1_st rfl ?_; repeat (first | assumption | refine c1_st rfl ?_)) | omega) [nx_l, nx_r, nx_n, x_st, x_push, x_bin, x_div, x_un, x_dup, x_pop, x_dup2, x_goto, x_ifeq, x_ifne, x_iflt, x_ifge, x_ifgt, x_ifle, x_iceq, x_icne, x_iclt, x_icge, x_icgt, x_icle, x_ifnull, x_ifnonnull, x_ldi, x_lda, x_sti, x_sta, x_iinc, x_gf, x_pf, x_ald, x_ast, x_aln, x_len, x_cl_, x_cv, x_cs, x_rc, x_r0, x_isT, x_oi, x_rv, x_ri, x_ra, Value.category, t128_0, t128_1, t128_2, t128_3, t128_5, t128_6, t128_7, t128_10, t128_12, t128_13, t128_15, t128_16, t128_18, t128_21, t128_23, t128_26, t128_27, t128_30, t128_31, t128_32, t128_34, t128_36, t128_38, t128_41, t128_42, t128_45, t128_47, t128_48, t128_51, t128_52, t128_55, t128_57, t128_59, t128_60, t128_61, t128_62, t128_65, t128_67, t128_68, t128_70, t128_73, t128_75, t128_76, t128_78, t128_81, t128_83, t128_86, t128_88, t128_89, t128_92, t128_94, t128_95, t128_98, t128_99, t128_102, t128_103, t128_105, t128_108, t128_111, t128_114, t128_116, lk_s, hp_get, hp_set, uH_at, uH_ne, uH_upd, uH_swap, iZ_add, iZ_sub, iZ_mul, iZ_neg, iZ_lt, iZ_le, iZ_eq, iZ_div, iZ_of, ix_Z, gZ_map, gZ_mapI, gZ_map', le_0, le_s, sZ_map, sZ_len, bZ_0, bZ_inj, bZ_t, bZ_f, nr_i, nr_0, nr_1, nr_b, ft_i, ft_b, ft_0, ft_1, zl_0, zl_1, zl_99, mF_len, mg_0, mg_1, mg_2, mg_3, mg_4, mg_5, mg_6, mg_7, mg_8, mg_9, mg_10, mg_11, mg_12, mg_13, mg_14, mg_15, mg_16, mg_17, mg_18, mg_19, mg_20, mg_21, mg_22, mg_23, mg_24, mg_25, mg_26, mg_27, mg_28, mg_29, mg_30, mg_31, mg_32, mg_33, mg_34, mg_35, mg_36, mg_37, mg_38, ms_0, ms_1, ms_2, ms_13, ms_14, ms_15, ms_16, ms_21, ms_22, ms_23, ms_24, ms_28, ms_36, ms_37, ms_38, st_at, st_ne, st_st, st_swap, l0, l3, l5, l6, b1, -List.filter_filter, -List.getElem?_map, -List.getD_eq_getElem?_getD]
  | cons s P ih =>
    intro n p q Q b Bd w m lv hP p0 pe hQ q0 qf hT hU hs hB hm hS hBd hc l0 l3 l4 l5 l6
    simp only [List.length_cons] at pe
    obtain ⟨n', rfl, hT'⟩ := Ts_cons hT
    have b1 : ¬ e ≤ p := by omega
    have hsc := seg_cons p0 (show p < e by omega) (by omega : p < S.length)
    rw [hP] at hsc
    injection hsc with hs1 hs2
    have hgs : gZ S p = s := hs1.symm
    have hP' : seg S (p + 1) e = P := hs2.symm
    have sr := hs s List.mem_cons_self
    have s00 : 0 ≤ s := sr.1
    have bl0 : Bd.length = 52 := hB.1
    have ht : tm S q.toNat = tk 1 Q := seg_tk q0 hQ hU
    obtain ⟨u1, u2, u3⟩ := tk_sp hU
    have ul : (tk 1 Q).length ≤ Q.length := by
      have := congrArg List.length u3
      rw [List.length_append] at this
      omega
    have uf : q + (tk 1 Q).length ≤ 160 := by omega
    have Qne : 0 < Q.length := by
      have := Ts_len hU
      omega
    by_cases h9 : s < 99
    · have s52 := sr.2 h9
      have ar0 : ar s = 0 := ar_v h9
      rw [ar0, Nat.add_zero] at hT'
      have c99 : ¬ 99 ≤ s := by omega
      have X2 := m109 (w := w) (d + 1) hN hm hS (by omega) hr q q0 (by rw [ht]; exact u1)
      rw [ht] at X2
      have hbv := hB.2 s sr.1 s52
      have hsd := seg_drop q0 (by omega) hQ qf (i := (tk 1 Q).length) ul
      by_cases hbe : b s = []
      · have hneg : gZ Bd s < 0 := by
          by_cases z : gZ Bd s < 0
          · exact z
          · exfalso
            have := (hbv.2.2.2 (by omega)).2.1
            rw [hbe] at this
            cases this
        have em : mtT (s :: P) Q b = mtT P (Q.drop (tk 1 Q).length) (bU b s (tk 1 Q)) := by
          conv => lhs; unfold mtT
          rw [if_pos h9, if_pos hbe]
        rw [em]
        obtain ⟨w1, hw1⟩ : ∃ w1, w1 = uH w 46 (cI 0 (sZ Bd s q)) := ⟨_, rfl⟩
        have hm1 : w1 27 = .inr (8, mF m) := by rw [hw1, uH_ne (by decide)]; exact hm
        have hS1 : w1 45 = cI 0 S := by rw [hw1, uH_ne (by decide)]; exact hS
        have hB1 : w1 46 = cI 0 (sZ Bd s q) := by rw [hw1, uH_at]
        have eB : ∀ v, 0 ≤ v → gZ (sZ Bd s q) v = if s = v then q else gZ Bd v := fun v v0 => gZ_sZ sr.1 (by rw [hB.1]; omega) v0
        have eBs : gZ (sZ Bd s q) s = q := by rw [eB s sr.1, if_pos rfl]
        have BM1 : BM S (sZ Bd s q) (bU b s (tk 1 Q)) := by
          refine ⟨by rw [sZ_len]; exact hB.1, fun v v0 v1 => ?_⟩
          rw [eB v v0]
          by_cases ev : s = v
          · subst ev
            rw [if_pos rfl]
            have : bU b s (tk 1 Q) s = tk 1 Q := if_pos rfl
            rw [this]
            exact ⟨by omega, by omega, fun z => by omega, fun _ => ⟨ht, u1, uf⟩⟩
          · rw [if_neg ev]
            have : bU b s (tk 1 Q) v = b v := if_neg (fun z => ev z.symm)
            rw [this]
            exact hB.2 v v0 v1
        have X1 := m129p (w := w1) (d) hN hm1 hS1 s1 hr q q q0 q0 (by rw [ht]; exact u1) (by rw [ht]; exact uf) (by rw [ht]; exact u1) (by rw [ht]; exact uf)
        rw [decide_eq_true rfl, bZ_t] at X1
        have X2' := m109 (w := w1) (d + 1) hN hm1 hS1 (by omega) hr q q0 (by rw [ht]; exact u1)
        rw [ht] at X2'
        have C7 := c1_st (i := 7) (v := .int (iZ s)) rfl hc
        have C6 := c1_st (i := 6) (v := .int (iZ 1)) rfl C7
        have C4 := c1_st (i := 4) (v := .int (iZ (q + (tk 1 Q).length))) rfl C6
        have C3 := c1_st (i := 3) (v := .int (iZ (p + 1))) rfl C4
        obtain ⟨w', Bd', a1, a2, a3, a4⟩ := ih n' (p + 1) (q + (tk 1 Q).length) (Q.drop (tk 1 Q).length) (bU b s (tk 1 Q)) (sZ Bd s q) w1 m _ hP' (by omega) (by omega) hsd (by omega) (by rw [List.length_drop]; omega) hT' u2 (fun z hz => hs z (List.mem_cons_of_mem _ hz)) BM1 hm1 hS1 hB1 C3 (by rw [lk_s C4, lk_s C6, lk_s C7, lk_s hc]; exact l0) (by rw [lk_s C4]; rfl) (by rw [lk_s C4, lk_s C6]; rfl) (by rw [lk_s C4, lk_s C6, lk_s C7, lk_s hc]; exact l5) (by rw [lk_s C4, lk_s C6, lk_s C7]; rfl)
        have g15 : ∀ res, Gx q_k128 (d + 3) 15 ((3, .int (iZ (p + 1))) :: List.filter (x_keep 3) ((4, .int (iZ (q + (tk 1 Q).length))) :: List.filter (x_keep 4) ((6, .int (iZ 1)) :: List.filter (x_keep 6) ((7, .int (iZ s)) :: lv.filter (x_keep 7)))), [], hp w1 N) res → Gx q_k128 (d + 3) 15 (lv, [], hp w N) res := fun res hg => by
          have g60 : Gx q_k128 (d + 3) 60 ((7, .int (iZ s)) :: lv.filter (x_keep 7), [], hp w1 N) res := by
            refine Gx.run 40 (X1.and X2') (fun C mm => ?_) hg
            obtain ⟨mm1, mm2⟩ := mm
            simp (disch := first | (refine c1_id ?_; assumption) | (refine c1_st rfl ?_; repeat (first | assumption | refine c1_st rfl ?_)) | omega) [nx_l, nx_r, nx_n, x_st, x_push, x_bin, x_div, x_un, x_dup, x_pop, x_dup2, x_goto, x_ifeq, x_ifne, x_iflt, x_ifge, x_ifgt, x_ifle, x_iceq, x_icne, x_iclt, x_icge, x_icgt, x_icle, x_ifnull, x_ifnonnull, x_ldi, x_lda, x_sti, x_sta, x_iinc, x_gf, x_pf, x_ald, x_ast, x_aln, x_len, x_cl_, x_cv, x_cs, x_rc, x_r0, x_isT, x_oi, x_rv, x_ri, x_ra, Value.category, t128_0, t128_1, t128_2, t128_3, t128_5, t128_6, t128_7, t128_10, t128_12, t128_13, t128_15, t128_16, t128_18, t128_21, t128_23, t128_26, t128_27, t128_30, t128_31, t128_32, t128_34, t128_36, t128_38, t128_41, t128_42, t128_45, t128_47, t128_48, t128_51, t128_52, t128_55, t128_57, t128_59, t128_60, t128_61, t128_62, t128_65, t128_67, t128_68, t128_70, t128_73, t128_75, t128_76, t128_78, t128_81, t128_83, t128_86, t128_88, t128_89, t128_92, t128_94, t128_95, t128_98, t128_99, t128_102, t128_103, t128_105, t128_108, t128_111, t128_114, t128_116, lk_s, hp_get, hp_set, uH_at, uH_ne, uH_upd, uH_swap, iZ_add, iZ_sub, iZ_mul, iZ_neg, iZ_lt, iZ_le, iZ_eq, iZ_div, iZ_of, ix_Z, gZ_map, gZ_mapI, gZ_map', le_0, le_s, sZ_map, sZ_len, bZ_0, bZ_inj, bZ_t, bZ_f, nr_i, nr_0, nr_1, nr_b, ft_i, ft_b, ft_0, ft_1, zl_0, zl_1, zl_99, mF_len, mg_0, mg_1, mg_2, mg_3, mg_4, mg_5, mg_6, mg_7, mg_8, mg_9, mg_10, mg_11, mg_12, mg_13, mg_14, mg_15, mg_16, mg_17, mg_18, mg_19, mg_20, mg_21, mg_22, mg_23, mg_24, mg_25, mg_26, mg_27, mg_28, mg_29, mg_30, mg_31, mg_32, mg_33, mg_34, mg_35, mg_36, mg_37, mg_38, ms_0, ms_1, ms_2, ms_13, ms_14, ms_15, ms_16, ms_21, ms_22, ms_23, ms_24, ms_28, ms_36, ms_37, ms_38, st_at, st_ne, st_st, st_swap, l0, l3, l4, l5, l6, hm1, hB1, eBs, mm1, mm2, -List.filter_filter, -List.getElem?_map, -List.getD_eq_getElem?_getD]
          refine Gx.run 40 Cs.tt (fun C _ => ?_) g60
          rw [hw1]
          have c0 : ¬ 0 ≤ gZ Bd s := by omega
          have bl := hB.1
          simp (disch := first | (refine c1_id ?_; assumption) | (refine c1_st rfl ?_; repeat (first | assumption | refine c1_st rfl ?_)) | omega) [nx_l, nx_r, nx_n, x_st, x_push, x_bin, x_div, x_un, x_dup, x_pop, x_dup2, x_goto, x_ifeq, x_ifne, x_iflt, x_ifge, x_ifgt, x_ifle, x_iceq, x_icne, x_iclt, x_icge, x_icgt, x_icle, x_ifnull, x_ifnonnull, x_ldi, x_lda, x_sti, x_sta, x_iinc, x_gf, x_pf, x_ald, x_ast, x_aln, x_len, x_cl_, x_cv, x_cs, x_rc, x_r0, x_isT, x_oi, x_rv, x_ri, x_ra, Value.category, t128_0, t128_1, t128_2, t128_3, t128_5, t128_6, t128_7, t128_10, t128_12, t128_13, t128_15, t128_16, t128_18, t128_21, t128_23, t128_26, t128_27, t128_30, t128_31, t128_32, t128_34, t128_36, t128_38, t128_41, t128_42, t128_45, t128_47, t128_48, t128_51, t128_52, t128_55, t128_57, t128_59, t128_60, t128_61, t128_62, t128_65, t128_67, t128_68, t128_70, t128_73, t128_75, t128_76, t128_78, t128_81, t128_83, t128_86, t128_88, t128_89, t128_92, t128_94, t128_95, t128_98, t128_99, t128_102, t128_103, t128_105, t128_108, t128_111, t128_114, t128_116, lk_s, hp_get, hp_set, uH_at, uH_ne, uH_upd, uH_swap, iZ_add, iZ_sub, iZ_mul, iZ_neg, iZ_lt, iZ_le, iZ_eq, iZ_div, iZ_of, ix_Z, gZ_map, gZ_mapI, gZ_map', le_0, le_s, sZ_map, sZ_len, bZ_0, bZ_inj, bZ_t, bZ_f, nr_i, nr_0, nr_1, nr_b, ft_i, ft_b, ft_0, ft_1, zl_0, zl_1, zl_99, mF_len, mg_0, mg_1, mg_2, mg_3, mg_4, mg_5, mg_6, mg_7, mg_8, mg_9, mg_10, mg_11, mg_12, mg_13, mg_14, mg_15, mg_16, mg_17, mg_18, mg_19, mg_20, mg_21, mg_22, mg_23, mg_24, mg_25, mg_26, mg_27, mg_28, mg_29, mg_30, mg_31, mg_32, mg_33, mg_34, mg_35, mg_36, mg_37, mg_38, ms_0, ms_1, ms_2, ms_13, ms_14, ms_15, ms_16, ms_21, ms_22, ms_23, ms_24, ms_28, ms_36, ms_37, ms_38, st_at, st_ne, st_st, st_swap, l0, l3, l4, l5, l6, hm, hS, hBd, hgs, b1, c99, c0, -List.filter_filter, -List.getElem?_map, -List.getD_eq_getElem?_getD]
        refine ⟨w', Bd', ?_, a2, a3, ?_⟩
        · refine Fr.tr (w' := w1) ?_ a1
          rw [hw1]
          exact (Fr.rf _ _).up (by decide)
        · revert a4
          cases mtT P (Q.drop (tk 1 Q).length) (bU b s (tk 1 Q)) with
          | none => exact fun a4 => g15 _ a4
          | some b' => exact fun a4 => ⟨a4.1, g15 _ a4.2⟩
      · have hpos : 0 ≤ gZ Bd s := by
          by_cases z : gZ Bd s < 0
          · exact absurd (hbv.2.2.1 z) hbe
          · omega
        obtain ⟨v1, v2, v3⟩ := hbv.2.2.2 hpos
        have X1 := m129p (w := w) d hN hm hS s1 hr (gZ Bd s) q hpos q0 (by rw [v1]; exact v2) (by rw [v1]; exact v3) (by rw [ht]; exact u1) (by rw [ht]; exact uf)
        rw [v1, ht] at X1
        have bl := hB.1
        by_cases hsame : b s = tk 1 Q
        · have em : mtT (s :: P) Q b = mtT P (Q.drop (tk 1 Q).length) b := by
            conv => lhs; unfold mtT
            rw [if_pos h9, if_neg hbe, if_pos hsame]
          rw [em]
          rw [decide_eq_true hsame, bZ_t] at X1
          have C7 := c1_st (i := 7) (v := .int (iZ s)) rfl hc
          have C6 := c1_st (i := 6) (v := .int (iZ 1)) rfl C7
          have C4 := c1_st (i := 4) (v := .int (iZ (q + (tk 1 Q).length))) rfl C6
          have C3 := c1_st (i := 3) (v := .int (iZ (p + 1))) rfl C4
          obtain ⟨w', Bd', a1, a2, a3, a4⟩ := ih n' (p + 1) (q + (tk 1 Q).length) (Q.drop (tk 1 Q).length) b Bd w m _ hP' (by omega) (by omega) hsd (by omega) (by rw [List.length_drop]; omega) hT' u2 (fun z hz => hs z (List.mem_cons_of_mem _ hz)) hB hm hS hBd C3 (by rw [lk_s C4, lk_s C6, lk_s C7, lk_s hc]; exact l0) (by rw [lk_s C4]; rfl) (by rw [lk_s C4, lk_s C6]; rfl) (by rw [lk_s C4, lk_s C6, lk_s C7, lk_s hc]; exact l5) (by rw [lk_s C4, lk_s C6, lk_s C7]; rfl)
          have g15 : ∀ res, Gx q_k128 (d + 3) 15 ((3, .int (iZ (p + 1))) :: List.filter (x_keep 3) ((4, .int (iZ (q + (tk 1 Q).length))) :: List.filter (x_keep 4) ((6, .int (iZ 1)) :: List.filter (x_keep 6) ((7, .int (iZ s)) :: lv.filter (x_keep 7)))), [], hp w N) res → Gx q_k128 (d + 3) 15 (lv, [], hp w N) res := fun res hg => by
            refine Gx.run 60 (X1.and X2) (fun C mm => ?_) hg
            obtain ⟨mm1, mm2⟩ := mm
            simp (disch := first | (refine c1_id ?_; assumption) | (refine c1_st rfl ?_; repeat (first | assumption | refine c1_st rfl ?_)) | omega) [nx_l, nx_r, nx_n, x_st, x_push, x_bin, x_div, x_un, x_dup, x_pop, x_dup2, x_goto, x_ifeq, x_ifne, x_iflt, x_ifge, x_ifgt, x_ifle, x_iceq, x_icne, x_iclt, x_icge, x_icgt, x_icle, x_ifnull, x_ifnonnull, x_ldi, x_lda, x_sti, x_sta, x_iinc, x_gf, x_pf, x_ald, x_ast, x_aln, x_len, x_cl_, x_cv, x_cs, x_rc, x_r0, x_isT, x_oi, x_rv, x_ri, x_ra, Value.category, t128_0, t128_1, t128_2, t128_3, t128_5, t128_6, t128_7, t128_10, t128_12, t128_13, t128_15, t128_16, t128_18, t128_21, t128_23, t128_26, t128_27, t128_30, t128_31, t128_32, t128_34, t128_36, t128_38, t128_41, t128_42, t128_45, t128_47, t128_48, t128_51, t128_52, t128_55, t128_57, t128_59, t128_60, t128_61, t128_62, t128_65, t128_67, t128_68, t128_70, t128_73, t128_75, t128_76, t128_78, t128_81, t128_83, t128_86, t128_88, t128_89, t128_92, t128_94, t128_95, t128_98, t128_99, t128_102, t128_103, t128_105, t128_108, t128_111, t128_114, t128_116, lk_s, hp_get, hp_set, uH_at, uH_ne, uH_upd, uH_swap, iZ_add, iZ_sub, iZ_mul, iZ_neg, iZ_lt, iZ_le, iZ_eq, iZ_div, iZ_of, ix_Z, gZ_map, gZ_mapI, gZ_map', le_0, le_s, sZ_map, sZ_len, bZ_0, bZ_inj, bZ_t, bZ_f, nr_i, nr_0, nr_1, nr_b, ft_i, ft_b, ft_0, ft_1, zl_0, zl_1, zl_99, mF_len, mg_0, mg_1, mg_2, mg_3, mg_4, mg_5, mg_6, mg_7, mg_8, mg_9, mg_10, mg_11, mg_12, mg_13, mg_14, mg_15, mg_16, mg_17, mg_18, mg_19, mg_20, mg_21, mg_22, mg_23, mg_24, mg_25, mg_26, mg_27, mg_28, mg_29, mg_30, mg_31, mg_32, mg_33, mg_34, mg_35, mg_36, mg_37, mg_38, ms_0, ms_1, ms_2, ms_13, ms_14, ms_15, ms_16, ms_21, ms_22, ms_23, ms_24, ms_28, ms_36, ms_37, ms_38, st_at, st_ne, st_st, st_swap, l0, l3, l4, l5, l6, hm, hS, hBd, hgs, b1, c99, hpos, mm1, mm2, -List.filter_filter, -List.getElem?_map, -List.getD_eq_getElem?_getD]
          refine ⟨w', Bd', a1, a2, a3, ?_⟩
          revert a4
          cases mtT P (Q.drop (tk 1 Q).length) b with
          | none => exact fun a4 => g15 _ a4
          | some b' => exact fun a4 => ⟨a4.1, g15 _ a4.2⟩
        · have em : mtT (s :: P) Q b = none := by
            conv => lhs; unfold mtT
            rw [if_pos h9, if_neg hbe, if_neg hsame]
          rw [em]
          rw [decide_eq_false hsame, bZ_f] at X1
          refine ⟨w, Bd, Fr.rf _ _, hBd, hB.1, Gx.fin 80 (X1.and X2) (fun C mm => ?_)⟩
          obtain ⟨mm1, mm2⟩ := mm
          by_cases c3 : e ≤ p + 1
          · simp (disch := first | (refine c1_id ?_; assumption) | (refine c1_st rfl ?_; repeat (first | assumption | refine c1_st rfl ?_)) | omega) [nx_l, nx_r, nx_n, x_st, x_push, x_bin, x_div, x_un, x_dup, x_pop, x_dup2, x_goto, x_ifeq, x_ifne, x_iflt, x_ifge, x_ifgt, x_ifle, x_iceq, x_icne, x_iclt, x_icge, x_icgt, x_icle, x_ifnull, x_ifnonnull, x_ldi, x_lda, x_sti, x_sta, x_iinc, x_gf, x_pf, x_ald, x_ast, x_aln, x_len, x_cl_, x_cv, x_cs, x_rc, x_r0, x_isT, x_oi, x_rv, x_ri, x_ra, Value.category, t128_0, t128_1, t128_2, t128_3, t128_5, t128_6, t128_7, t128_10, t128_12, t128_13, t128_15, t128_16, t128_18, t128_21, t128_23, t128_26, t128_27, t128_30, t128_31, t128_32, t128_34, t128_36, t128_38, t128_41, t128_42, t128_45, t128_47, t128_48, t128_51, t128_52, t128_55, t128_57, t128_59, t128_60, t128_61, t128_62, t128_65, t128_67, t128_68, t128_70, t128_73, t128_75, t128_76, t128_78, t128_81, t128_83, t128_86, t128_88, t128_89, t128_92, t128_94, t128_95, t128_98, t128_99, t128_102, t128_103, t128_105, t128_108, t128_111, t128_114, t128_116, lk_s, hp_get, hp_set, uH_at, uH_ne, uH_upd, uH_swap, iZ_add, iZ_sub, iZ_mul, iZ_neg, iZ_lt, iZ_le, iZ_eq, iZ_div, iZ_of, ix_Z, gZ_map, gZ_mapI, gZ_map', le_0, le_s, sZ_map, sZ_len, bZ_0, bZ_inj, bZ_t, bZ_f, nr_i, nr_0, nr_1, nr_b, ft_i, ft_b, ft_0, ft_1, zl_0, zl_1, zl_99, mF_len, mg_0, mg_1, mg_2, mg_3, mg_4, mg_5, mg_6, mg_7, mg_8, mg_9, mg_10, mg_11, mg_12, mg_13, mg_14, mg_15, mg_16, mg_17, mg_18, mg_19, mg_20, mg_21, mg_22, mg_23, mg_24, mg_25, mg_26, mg_27, mg_28, mg_29, mg_30, mg_31, mg_32, mg_33, mg_34, mg_35, mg_36, mg_37, mg_38, ms_0, ms_1, ms_2, ms_13, ms_14, ms_15, ms_16, ms_21, ms_22, ms_23, ms_24, ms_28, ms_36, ms_37, ms_38, st_at, st_ne, st_st, st_swap, l0, l3, l4, l5, l6, hm, hS, hBd, hgs, b1, c99, hpos, mm1, mm2, c3, -List.filter_filter, -List.getElem?_map, -List.getD_eq_getElem?_getD]
          · simp (disch := first | (refine c1_id ?_; assumption) | (refine c1_st rfl ?_; repeat (first | assumption | refine c1_st rfl ?_)) | omega) [nx_l, nx_r, nx_n, x_st, x_push, x_bin, x_div, x_un, x_dup, x_pop, x_dup2, x_goto, x_ifeq, x_ifne, x_iflt, x_ifge, x_ifgt, x_ifle, x_iceq, x_icne, x_iclt, x_icge, x_icgt, x_icle, x_ifnull, x_ifnonnull, x_ldi, x_lda, x_sti, x_sta, x_iinc, x_gf, x_pf, x_ald, x_ast, x_aln, x_len, x_cl_, x_cv, x_cs, x_rc, x_r0, x_isT, x_oi, x_rv, x_ri, x_ra, Value.category, t128_0, t128_1, t128_2, t128_3, t128_5, t128_6, t128_7, t128_10, t128_12, t128_13, t128_15, t128_16, t128_18, t128_21, t128_23, t128_26, t128_27, t128_30, t128_31, t128_32, t128_34, t128_36, t128_38, t128_41, t128_42, t128_45, t128_47, t128_48, t128_51, t128_52, t128_55, t128_57, t128_59, t128_60, t128_61, t128_62, t128_65, t128_67, t128_68, t128_70, t128_73, t128_75, t128_76, t128_78, t128_81, t128_83, t128_86, t128_88, t128_89, t128_92, t128_94, t128_95, t128_98, t128_99, t128_102, t128_103, t128_105, t128_108, t128_111, t128_114, t128_116, lk_s, hp_get, hp_set, uH_at, uH_ne, uH_upd, uH_swap, iZ_add, iZ_sub, iZ_mul, iZ_neg, iZ_lt, iZ_le, iZ_eq, iZ_div, iZ_of, ix_Z, gZ_map, gZ_mapI, gZ_map', le_0, le_s, sZ_map, sZ_len, bZ_0, bZ_inj, bZ_t, bZ_f, nr_i, nr_0, nr_1, nr_b, ft_i, ft_b, ft_0, ft_1, zl_0, zl_1, zl_99, mF_len, mg_0, mg_1, mg_2, mg_3, mg_4, mg_5, mg_6, mg_7, mg_8, mg_9, mg_10, mg_11, mg_12, mg_13, mg_14, mg_15, mg_16, mg_17, mg_18, mg_19, mg_20, mg_21, mg_22, mg_23, mg_24, mg_25, mg_26, mg_27, mg_28, mg_29, mg_30, mg_31, mg_32, mg_33, mg_34, mg_35, mg_36, mg_37, mg_38, ms_0, ms_1, ms_2, ms_13, ms_14, ms_15, ms_16, ms_21, ms_22, ms_23, ms_24, ms_28, ms_36, ms_37, ms_38, st_at, st_ne, st_st, st_swap, l0, l3, l4, l5, l6, hm, hS, hBd, hgs, b1, c99, hpos, mm1, mm2, c3, -List.filter_filter, -List.getElem?_map, -List.getD_eq_getElem?_getD]
    · have c99 : 99 ≤ s := by omega
      cases Q with
      | nil => exact absurd Qne (Nat.lt_irrefl _)
      | cons s' Q' =>
        simp only [List.length_cons] at qf
        have hqc := seg_cons q0 (show q < f by omega) (by omega : q < S.length)
        rw [hQ] at hqc
        injection hqc with hq1 hq2
        have hgq : gZ S q = s' := hq1.symm
        have rq := hr q
        have rp := hr p
        rw [hgq] at rq
        rw [hgs] at rp
        by_cases ess : s = s'
        · subst ess
          have em : mtT (s :: P) (s :: Q') b = mtT P Q' b := by
            conv => lhs; unfold mtT
            rw [if_neg h9]
            dsimp only
            rw [if_pos rfl]
          rw [em]
          obtain ⟨n2, en, hU'⟩ := Ts_cons hU
          have en' : n2 = n' := by omega
          subst en'
          have C7 := c1_st (i := 7) (v := .int (iZ s)) rfl hc
          have C6 := c1_st (i := 6) (v := .int (iZ 1)) rfl C7
          have C4 := c1_st (i := 4) (v := .int (iZ (q + 1))) rfl C6
          have C3 := c1_st (i := 3) (v := .int (iZ (p + 1))) rfl C4
          obtain ⟨w', Bd', a1, a2, a3, a4⟩ := ih (n2 + ar s) (p + 1) (q + 1) Q' b Bd w m _ hP' (by omega) (by omega) hq2.symm (by omega) (by omega) hT' hU' (fun z hz => hs z (List.mem_cons_of_mem _ hz)) hB hm hS hBd C3 (by rw [lk_s C4, lk_s C6, lk_s C7, lk_s hc]; exact l0) (by rw [lk_s C4]; rfl) (by rw [lk_s C4, lk_s C6]; rfl) (by rw [lk_s C4, lk_s C6, lk_s C7, lk_s hc]; exact l5) (by rw [lk_s C4, lk_s C6, lk_s C7]; rfl)
          have g15 : ∀ res, Gx q_k128 (d + 3) 15 ((3, .int (iZ (p + 1))) :: List.filter (x_keep 3) ((4, .int (iZ (q + 1))) :: List.filter (x_keep 4) ((6, .int (iZ 1)) :: List.filter (x_keep 6) ((7, .int (iZ s)) :: lv.filter (x_keep 7)))), [], hp w N) res → Gx q_k128 (d + 3) 15 (lv, [], hp w N) res := fun res hg => by
            refine Gx.run 60 Cs.tt (fun C _ => ?_) hg
            simp (disch := first | (refine c1_id ?_; assumption) | (refine c1_st rfl ?_; repeat (first | assumption | refine c1_st rfl ?_)) | omega) [nx_l, nx_r, nx_n, x_st, x_push, x_bin, x_div, x_un, x_dup, x_pop, x_dup2, x_goto, x_ifeq, x_ifne, x_iflt, x_ifge, x_ifgt, x_ifle, x_iceq, x_icne, x_iclt, x_icge, x_icgt, x_icle, x_ifnull, x_ifnonnull, x_ldi, x_lda, x_sti, x_sta, x_iinc, x_gf, x_pf, x_ald, x_ast, x_aln, x_len, x_cl_, x_cv, x_cs, x_rc, x_r0, x_isT, x_oi, x_rv, x_ri, x_ra, Value.category, t128_0, t128_1, t128_2, t128_3, t128_5, t128_6, t128_7, t128_10, t128_12, t128_13, t128_15, t128_16, t128_18, t128_21, t128_23, t128_26, t128_27, t128_30, t128_31, t128_32, t128_34, t128_36, t128_38, t128_41, t128_42, t128_45, t128_47, t128_48, t128_51, t128_52, t128_55, t128_57, t128_59, t128_60, t128_61, t128_62, t128_65, t128_67, t128_68, t128_70, t128_73, t128_75, t128_76, t128_78, t128_81, t128_83, t128_86, t128_88, t128_89, t128_92, t128_94, t128_95, t128_98, t128_99, t128_102, t128_103, t128_105, t128_108, t128_111, t128_114, t128_116, lk_s, hp_get, hp_set, uH_at, uH_ne, uH_upd, uH_swap, iZ_add, iZ_sub, iZ_mul, iZ_neg, iZ_lt, iZ_le, iZ_eq, iZ_div, iZ_of, ix_Z, gZ_map, gZ_mapI, gZ_map', le_0, le_s, sZ_map, sZ_len, bZ_0, bZ_inj, bZ_t, bZ_f, nr_i, nr_0, nr_1, nr_b, ft_i, ft_b, ft_0, ft_1, zl_0, zl_1, zl_99, mF_len, mg_0, mg_1, mg_2, mg_3, mg_4, mg_5, mg_6, mg_7, mg_8, mg_9, mg_10, mg_11, mg_12, mg_13, mg_14, mg_15, mg_16, mg_17, mg_18, mg_19, mg_20, mg_21, mg_22, mg_23, mg_24, mg_25, mg_26, mg_27, mg_28, mg_29, mg_30, mg_31, mg_32, mg_33, mg_34, mg_35, mg_36, mg_37, mg_38, ms_0, ms_1, ms_2, ms_13, ms_14, ms_15, ms_16, ms_21, ms_22, ms_23, ms_24, ms_28, ms_36, ms_37, ms_38, st_at, st_ne, st_st, st_swap, l0, l3, l4, l5, l6, hm, hS, hgs, hgq, b1, c99, -List.filter_filter, -List.getElem?_map, -List.getD_eq_getElem?_getD]
          refine ⟨w', Bd', a1, a2, a3, ?_⟩
          revert a4
          cases mtT P Q' b with
          | none => exact fun a4 => g15 _ a4
          | some b' => exact fun a4 => ⟨a4.1, g15 _ a4.2⟩
        · have em : mtT (s :: P) (s' :: Q') b = none := by
            conv => lhs; unfold mtT
            rw [if_neg h9]
            dsimp only
            rw [if_neg ess]
          rw [em]
          refine ⟨w, Bd, Fr.rf _ _, hBd, hB.1, Gx.fin 80 Cs.tt (fun C _ => ?_)⟩
          by_cases c3 : e ≤ p + 1
          · simp (disch := first | (refine c1_id ?_; assumption) | (refine c1_st rfl ?_; repeat (first | assumption | refine c1_st rfl ?_)) | omega) [nx_l, nx_r, nx_n, x_st, x_push, x_bin, x_div, x_un, x_dup, x_pop, x_dup2, x_goto, x_ifeq, x_ifne, x_iflt, x_ifge, x_ifgt, x_ifle, x_iceq, x_icne, x_iclt, x_icge, x_icgt, x_icle, x_ifnull, x_ifnonnull, x_ldi, x_lda, x_sti, x_sta, x_iinc, x_gf, x_pf, x_ald, x_ast, x_aln, x_len, x_cl_, x_cv, x_cs, x_rc, x_r0, x_isT, x_oi, x_rv, x_ri, x_ra, Value.category, t128_0, t128_1, t128_2, t128_3, t128_5, t128_6, t128_7, t128_10, t128_12, t128_13, t128_15, t128_16, t128_18, t128_21, t128_23, t128_26, t128_27, t128_30, t128_31, t128_32, t128_34, t128_36, t128_38, t128_41, t128_42, t128_45, t128_47, t128_48, t128_51, t128_52, t128_55, t128_57, t128_59, t128_60, t128_61, t128_62, t128_65, t128_67, t128_68, t128_70, t128_73, t128_75, t128_76, t128_78, t128_81, t128_83, t128_86, t128_88, t128_89, t128_92, t128_94, t128_95, t128_98, t128_99, t128_102, t128_103, t128_105, t128_108, t128_111, t128_114, t128_116, lk_s, hp_get, hp_set, uH_at, uH_ne, uH_upd, uH_swap, iZ_add, iZ_sub, iZ_mul, iZ_neg, iZ_lt, iZ_le, iZ_eq, iZ_div, iZ_of, ix_Z, gZ_map, gZ_mapI, gZ_map', le_0, le_s, sZ_map, sZ_len, bZ_0, bZ_inj, bZ_t, bZ_f, nr_i, nr_0, nr_1, nr_b, ft_i, ft_b, ft_0, ft_1, zl_0, zl_1, zl_99, mF_len, mg_0, mg_1, mg_2, mg_3, mg_4, mg_5, mg_6, mg_7, mg_8, mg_9, mg_10, mg_11, mg_12, mg_13, mg_14, mg_15, mg_16, mg_17, mg_18, mg_19, mg_20, mg_21, mg_22, mg_23, mg_24, mg_25, mg_26, mg_27, mg_28, mg_29, mg_30, mg_31, mg_32, mg_33, mg_34, mg_35, mg_36, mg_37, mg_38, ms_0, ms_1, ms_2, ms_13, ms_14, ms_15, ms_16, ms_21, ms_22, ms_23, ms_24, ms_28, ms_36, ms_37, ms_38, st_at, st_ne, st_st, st_swap, l0, l3, l4, l5, l6, hm, hS, hgs, hgq, b1, c99, ess, c3, -List.filter_filter, -List.getElem?_map, -List.getD_eq_getElem?_getD]
          · simp (disch := first | (refine c1_id ?_; assumption) | (refine c1_st rfl ?_; repeat (first | assumption | refine c1_st rfl ?_)) | omega) [nx_l, nx_r, nx_n, x_st, x_push, x_bin, x_div, x_un, x_dup, x_pop, x_dup2, x_goto, x_ifeq, x_ifne, x_iflt, x_ifge, x_ifgt, x_ifle, x_iceq, x_icne, x_iclt, x_icge, x_icgt, x_icle, x_ifnull, x_ifnonnull, x_ldi, x_lda, x_sti, x_sta, x_iinc, x_gf, x_pf, x_ald, x_ast, x_aln, x_len, x_cl_, x_cv, x_cs, x_rc, x_r0, x_isT, x_oi, x_rv, x_ri, x_ra, Value.category, t128_0, t128_1, t128_2, t128_3, t128_5, t128_6, t128_7, t128_10, t128_12, t128_13, t128_15, t128_16, t128_18, t128_21, t128_23, t128_26, t128_27, t128_30, t128_31, t128_32, t128_34, t128_36, t128_38, t128_41, t128_42, t128_45, t128_47, t128_48, t128_51, t128_52, t128_55, t128_57, t128_59, t128_60, t128_61, t128_62, t128_65, t128_67, t128_68, t128_70, t128_73, t128_75, t128_76, t128_78, t128_81, t128_83, t128_86, t128_88, t128_89, t128_92, t128_94, t128_95, t128_98, t128_99, t128_102, t128_103, t128_105, t128_108, t128_111, t128_114, t128_116, lk_s, hp_get, hp_set, uH_at, uH_ne, uH_upd, uH_swap, iZ_add, iZ_sub, iZ_mul, iZ_neg, iZ_lt, iZ_le, iZ_eq, iZ_div, iZ_of, ix_Z, gZ_map, gZ_mapI, gZ_map', le_0, le_s, sZ_map, sZ_len, bZ_0, bZ_inj, bZ_t, bZ_f, nr_i, nr_0, nr_1, nr_b, ft_i, ft_b, ft_0, ft_1, zl_0, zl_1, zl_99, mF_len, mg_0, mg_1, mg_2, mg_3, mg_4, mg_5, mg_6, mg_7, mg_8, mg_9, mg_10, mg_11, mg_12, mg_13, mg_14, mg_15, mg_16, mg_17, mg_18, mg_19, mg_20, mg_21, mg_22, mg_23, mg_24, mg_25, mg_26, mg_27, mg_28, mg_29, mg_30, mg_31, mg_32, mg_33, mg_34, mg_35, mg_36, mg_37, mg_38, ms_0, ms_1, ms_2, ms_13, ms_14, ms_15, ms_16, ms_21, ms_22, ms_23, ms_24, ms_28, ms_36, ms_37, ms_38, st_at, st_ne, st_st, st_swap, l0, l3, l4, l5, l6, hm, hS, hgs, hgq, b1, c99, ess, c3, -List.filter_filter, -List.getElem?_map, -List.getD_eq_getElem?_getD]
theorem m128 (d : Nat) (hN : 53 ≤ N) (hm : w 27 = .inr (8, mF m)) (hS : w 45 = cI 0 S) (s1 : S.length = 160) (hr : ∀ i, 0 ≤ gZ S i ∧ gZ S i < 100000) {Bd : List Int} (hBd : w 46 = cI 0 Bd) {b : Int → List Int} (hB : BM S Bd b) (p q : Int) (P Q : List Int) (p0 : 0 ≤ p) (q0 : 0 ≤ q) (hP : seg S p (p + P.length) = P) (hQ : seg S q (q + Q.length) = Q) (p9 : p + P.length ≤ 160) (q9 : q + Q.length ≤ 160) (hT : Ts 1 P) (hU : Ts 1 Q) (hs : ∀ s ∈ P, 0 ≤ s ∧ (s < 99 → s < 52)) :
    ∃ (w' : Nat → xC) (Bd' : List Int), Fr [46] w w' ∧ w' 46 = cI 0 Bd' ∧ Bd'.length = 52 ∧ (∀ b', mtT P Q b = some b' → BM S Bd' b') ∧ Xc (d + 4) 128 [.ref 30, .int (iZ p), .int (iZ q)] (hp w N) (some (.int (iZ (bZ (mtT P Q b).isSome))), hp w' N) := by
  have ht : tm S p.toNat = P := by
    have := seg_tk p0 hP (n := 0) hT
    rw [this]
    have e2 := tk_app (b := []) hT
    rw [List.append_nil] at e2
    exact e2
  have X := m109 (w := w) (d + 1) hN hm hS (by omega) hr p p0 (by rw [ht]; exact hT)
  rw [ht] at X
  have hc : c1 (lv_args 0 [.ref 30, .int (iZ p), .int (iZ q)]) := by simp [c1, lv_args, Value.category]
  have l0 : x_lk (lv_args 0 [.ref 30, .int (iZ p), .int (iZ q)]) 0 = some (.ref 30) := rfl
  have l1 : x_lk (lv_args 0 [.ref 30, .int (iZ p), .int (iZ q)]) 1 = some (.int (iZ p)) := rfl
  have l2 : x_lk (lv_args 0 [.ref 30, .int (iZ p), .int (iZ q)]) 2 = some (.int (iZ q)) := rfl
  have C3 := c1_st (i := 3) (v := .int (iZ p)) rfl hc
  have C4 := c1_st (i := 4) (v := .int (iZ q)) rfl C3
  have C5 := c1_st (i := 5) (v := .int (iZ (p + P.length))) rfl C4
  have C6 := c1_st (i := 6) (v := .int (iZ 1)) rfl C5
  obtain ⟨w', Bd', a1, a2, a3, a4⟩ := l128 d hN s1 hr (p + P.length) (q + Q.length) p9 q9 P 1 p q Q b Bd w m _ hP p0 rfl hQ q0 rfl hT hU hs hB hm hS hBd C6 (by rw [lk_s C5, lk_s C4, lk_s C3, lk_s hc]; exact l0) (by rw [lk_s C5, lk_s C4, lk_s C3, lk_s hc]; rfl) (by rw [lk_s C5, lk_s C4, lk_s C3]; rfl) (by rw [lk_s C5, lk_s C4]; rfl) (by rw [lk_s C5]; rfl)
  have g0 : ∀ res, Gx q_k128 (d + 3) 15 ((6, .int (iZ 1)) :: List.filter (x_keep 6) ((5, .int (iZ (p + P.length))) :: List.filter (x_keep 5) ((4, .int (iZ q)) :: List.filter (x_keep 4) ((3, .int (iZ p)) :: List.filter (x_keep 3) (lv_args 0 [.ref 30, .int (iZ p), .int (iZ q)])))), [], hp w N) res → Gx q_k128 (d + 3) 0 (lv_args 0 [.ref 30, .int (iZ p), .int (iZ q)], [], hp w N) res := fun res hg => by
    generalize lv_args 0 [.ref 30, .int (iZ p), .int (iZ q)] = lv0 at hc l0 l1 l2 hg
    refine Gx.run 40 X (fun C mm => ?_) hg
    simp (disch := first | (refine c1_id ?_; assumption) | (refine c1_st rfl ?_; repeat (first | assumption | refine c1_st rfl ?_)) | omega) [nx_l, nx_r, nx_n, x_st, x_push, x_bin, x_div, x_un, x_dup, x_pop, x_dup2, x_goto, x_ifeq, x_ifne, x_iflt, x_ifge, x_ifgt, x_ifle, x_iceq, x_icne, x_iclt, x_icge, x_icgt, x_icle, x_ifnull, x_ifnonnull, x_ldi, x_lda, x_sti, x_sta, x_iinc, x_gf, x_pf, x_ald, x_ast, x_aln, x_len, x_cl_, x_cv, x_cs, x_rc, x_r0, x_isT, x_oi, x_rv, x_ri, x_ra, Value.category, t128_0, t128_1, t128_2, t128_3, t128_5, t128_6, t128_7, t128_10, t128_12, t128_13, t128_15, t128_16, t128_18, t128_21, t128_23, t128_26, t128_27, t128_30, t128_31, t128_32, t128_34, t128_36, t128_38, t128_41, t128_42, t128_45, t128_47, t128_48, t128_51, t128_52, t128_55, t128_57, t128_59, t128_60, t128_61, t128_62, t128_65, t128_67, t128_68, t128_70, t128_73, t128_75, t128_76, t128_78, t128_81, t128_83, t128_86, t128_88, t128_89, t128_92, t128_94, t128_95, t128_98, t128_99, t128_102, t128_103, t128_105, t128_108, t128_111, t128_114, t128_116, lk_s, hp_get, hp_set, uH_at, uH_ne, uH_upd, uH_swap, iZ_add, iZ_sub, iZ_mul, iZ_neg, iZ_lt, iZ_le, iZ_eq, iZ_div, iZ_of, ix_Z, gZ_map, gZ_mapI, gZ_map', le_0, le_s, sZ_map, sZ_len, bZ_0, bZ_inj, bZ_t, bZ_f, nr_i, nr_0, nr_1, nr_b, ft_i, ft_b, ft_0, ft_1, zl_0, zl_1, zl_99, mF_len, mg_0, mg_1, mg_2, mg_3, mg_4, mg_5, mg_6, mg_7, mg_8, mg_9, mg_10, mg_11, mg_12, mg_13, mg_14, mg_15, mg_16, mg_17, mg_18, mg_19, mg_20, mg_21, mg_22, mg_23, mg_24, mg_25, mg_26, mg_27, mg_28, mg_29, mg_30, mg_31, mg_32, mg_33, mg_34, mg_35, mg_36, mg_37, mg_38, ms_0, ms_1, ms_2, ms_13, ms_14, ms_15, ms_16, ms_21, ms_22, ms_23, ms_24, ms_28, ms_36, ms_37, ms_38, st_at, st_ne, st_st, st_swap, l0, l1, l2, hm, mm, -List.filter_filter, -List.getElem?_map, -List.getD_eq_getElem?_getD]
  have le : x_le (hp w N) (hp w' N) := hp_le (Nat.le_refl _) (fun j _ => by
    by_cases hj : j ∈ ([46] : List Nat)
    · rw [List.mem_singleton] at hj
      subst hj
      rw [hBd, a2]
      simp [x_c1, hB.1, a3]
    · rw [a1 j hj]
      exact Nat.le_refl _)
  refine ⟨w', Bd', a1, a2, a3, fun b' e => ?_, ?_⟩
  · rw [e] at a4
    exact a4.1
  · revert a4
    cases mtT P Q b with
    | none => exact fun a4 => Xc.of rfl (by simp [lg_sl, Value.category]) (g0 _ a4) le
    | some b' => exact fun a4 => Xc.of rfl (by simp [lg_sl, Value.category]) (g0 _ a4.2) le
end MA
