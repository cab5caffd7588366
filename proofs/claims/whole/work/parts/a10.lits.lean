/-! the class: the literals of a parent are copied -/
theorem f65_0 : x_fetch q_k65 0 = x_st (x_push 1 (.int (0))) := rfl
theorem t65_0 (C : xF) (s n : Nat) (z : xS) : x_to q_k65 C s (n + 1) 0 z = x_nx q_k65 C s n ((x_st (x_push 1 (.int (0)))) C z) := x_to_at f65_0 C s n z
theorem f65_1 : x_fetch q_k65 1 = x_sti 2 3 := rfl
theorem t65_1 (C : xF) (s n : Nat) (z : xS) : x_to q_k65 C s (n + 1) 1 z = x_nx q_k65 C s n ((x_sti 2 3) C z) := x_to_at f65_1 C s n z
theorem f65_2 : x_fetch q_k65 2 = x_ldi 3 3 := rfl
theorem t65_2 (C : xF) (s n : Nat) (z : xS) : x_to q_k65 C s (n + 1) 2 z = x_nx q_k65 C s n ((x_ldi 3 3) C z) := x_to_at f65_2 C s n z
theorem f65_3 : x_fetch q_k65 3 = x_lda 4 1 := rfl
theorem t65_3 (C : xF) (s n : Nat) (z : xS) : x_to q_k65 C s (n + 1) 3 z = x_nx q_k65 C s n ((x_lda 4 1) C z) := x_to_at f65_3 C s n z
theorem f65_4 : x_fetch q_k65 4 = x_gf 7 4 3 := rfl
theorem t65_4 (C : xF) (s n : Nat) (z : xS) : x_to q_k65 C s (n + 1) 4 z = x_nx q_k65 C s n ((x_gf 7 4 3) C z) := x_to_at f65_4 C s n z
theorem f65_7 : x_fetch q_k65 7 = x_st (x_icge 85 10) := rfl
theorem t65_7 (C : xF) (s n : Nat) (z : xS) : x_to q_k65 C s (n + 1) 7 z = x_nx q_k65 C s n ((x_st (x_icge 85 10)) C z) := x_to_at f65_7 C s n z
theorem f65_10 : x_fetch q_k65 10 = x_ldi 11 2 := rfl
theorem t65_10 (C : xF) (s n : Nat) (z : xS) : x_to q_k65 C s (n + 1) 10 z = x_nx q_k65 C s n ((x_ldi 11 2) C z) := x_to_at f65_10 C s n z
theorem f65_11 : x_fetch q_k65 11 = x_lda 12 1 := rfl
theorem t65_11 (C : xF) (s n : Nat) (z : xS) : x_to q_k65 C s (n + 1) 11 z = x_nx q_k65 C s n ((x_lda 12 1) C z) := x_to_at f65_11 C s n z
theorem f65_12 : x_fetch q_k65 12 = x_ldi 13 3 := rfl
theorem t65_12 (C : xF) (s n : Nat) (z : xS) : x_to q_k65 C s (n + 1) 12 z = x_nx q_k65 C s n ((x_ldi 13 3) C z) := x_to_at f65_12 C s n z
theorem f65_13 : x_fetch q_k65 13 = x_cv 16 11 2 4 := rfl
theorem t65_13 (C : xF) (s n : Nat) (z : xS) : x_to q_k65 C s (n + 1) 13 z = x_nx q_k65 C s n ((x_cv 16 11 2 4) C z) := x_to_at f65_13 C s n z
theorem f65_16 : x_fetch q_k65 16 = x_st (x_bin 17 (fun a b => a + b)) := rfl
theorem t65_16 (C : xF) (s n : Nat) (z : xS) : x_to q_k65 C s (n + 1) 16 z = x_nx q_k65 C s n ((x_st (x_bin 17 (fun a b => a + b))) C z) := x_to_at f65_16 C s n z
theorem f65_17 : x_fetch q_k65 17 = x_sti 19 4 := rfl
theorem t65_17 (C : xF) (s n : Nat) (z : xS) : x_to q_k65 C s (n + 1) 17 z = x_nx q_k65 C s n ((x_sti 19 4) C z) := x_to_at f65_17 C s n z
theorem f65_19 : x_fetch q_k65 19 = x_ldi 21 4 := rfl
theorem t65_19 (C : xF) (s n : Nat) (z : xS) : x_to q_k65 C s (n + 1) 19 z = x_nx q_k65 C s n ((x_ldi 21 4) C z) := x_to_at f65_19 C s n z
theorem f65_21 : x_fetch q_k65 21 = x_lda 22 0 := rfl
theorem t65_21 (C : xF) (s n : Nat) (z : xS) : x_to q_k65 C s (n + 1) 21 z = x_nx q_k65 C s n ((x_lda 22 0) C z) := x_to_at f65_21 C s n z
theorem f65_22 : x_fetch q_k65 22 = x_gf 25 2 4 := rfl
theorem t65_22 (C : xF) (s n : Nat) (z : xS) : x_to q_k65 C s (n + 1) 22 z = x_nx q_k65 C s n ((x_gf 25 2 4) C z) := x_to_at f65_22 C s n z
theorem f65_25 : x_fetch q_k65 25 = x_st (x_iceq 79 28) := rfl
theorem t65_25 (C : xF) (s n : Nat) (z : xS) : x_to q_k65 C s (n + 1) 25 z = x_nx q_k65 C s n ((x_st (x_iceq 79 28)) C z) := x_to_at f65_25 C s n z
theorem f65_28 : x_fetch q_k65 28 = x_ldi 30 4 := rfl
theorem t65_28 (C : xF) (s n : Nat) (z : xS) : x_to q_k65 C s (n + 1) 28 z = x_nx q_k65 C s n ((x_ldi 30 4) C z) := x_to_at f65_28 C s n z
theorem f65_30 : x_fetch q_k65 30 = x_lda 31 0 := rfl
theorem t65_30 (C : xF) (s n : Nat) (z : xS) : x_to q_k65 C s (n + 1) 30 z = x_nx q_k65 C s n ((x_lda 31 0) C z) := x_to_at f65_30 C s n z
theorem f65_31 : x_fetch q_k65 31 = x_gf 34 2 5 := rfl
theorem t65_31 (C : xF) (s n : Nat) (z : xS) : x_to q_k65 C s (n + 1) 31 z = x_nx q_k65 C s n ((x_gf 34 2 5) C z) := x_to_at f65_31 C s n z
theorem f65_34 : x_fetch q_k65 34 = x_st (x_iceq 79 37) := rfl
theorem t65_34 (C : xF) (s n : Nat) (z : xS) : x_to q_k65 C s (n + 1) 34 z = x_nx q_k65 C s n ((x_st (x_iceq 79 37)) C z) := x_to_at f65_34 C s n z
theorem f65_37 : x_fetch q_k65 37 = x_lda 38 0 := rfl
theorem t65_37 (C : xF) (s n : Nat) (z : xS) : x_to q_k65 C s (n + 1) 37 z = x_nx q_k65 C s n ((x_lda 38 0) C z) := x_to_at f65_37 C s n z
theorem f65_38 : x_fetch q_k65 38 = x_gf 41 2 0 := rfl
theorem t65_38 (C : xF) (s n : Nat) (z : xS) : x_to q_k65 C s (n + 1) 38 z = x_nx q_k65 C s n ((x_gf 41 2 0) C z) := x_to_at f65_38 C s n z
theorem f65_41 : x_fetch q_k65 41 = x_lda 42 1 := rfl
theorem t65_41 (C : xF) (s n : Nat) (z : xS) : x_to q_k65 C s (n + 1) 41 z = x_nx q_k65 C s n ((x_lda 42 1) C z) := x_to_at f65_41 C s n z
theorem f65_42 : x_fetch q_k65 42 = x_gf 45 4 2 := rfl
theorem t65_42 (C : xF) (s n : Nat) (z : xS) : x_to q_k65 C s (n + 1) 42 z = x_nx q_k65 C s n ((x_gf 45 4 2) C z) := x_to_at f65_42 C s n z
theorem f65_45 : x_fetch q_k65 45 = x_ldi 46 3 := rfl
theorem t65_45 (C : xF) (s n : Nat) (z : xS) : x_to q_k65 C s (n + 1) 45 z = x_nx q_k65 C s n ((x_ldi 46 3) C z) := x_to_at f65_45 C s n z
theorem f65_46 : x_fetch q_k65 46 = x_ald 47 1 := rfl
theorem t65_46 (C : xF) (s n : Nat) (z : xS) : x_to q_k65 C s (n + 1) 46 z = x_nx q_k65 C s n ((x_ald 47 1) C z) := x_to_at f65_46 C s n z
theorem f65_47 : x_fetch q_k65 47 = x_cv 50 15 2 4 := rfl
theorem t65_47 (C : xF) (s n : Nat) (z : xS) : x_to q_k65 C s (n + 1) 47 z = x_nx q_k65 C s n ((x_cv 50 15 2 4) C z) := x_to_at f65_47 C s n z
theorem f65_50 : x_fetch q_k65 50 = x_lda 51 0 := rfl
theorem t65_50 (C : xF) (s n : Nat) (z : xS) : x_to q_k65 C s (n + 1) 50 z = x_nx q_k65 C s n ((x_lda 51 0) C z) := x_to_at f65_50 C s n z
theorem f65_51 : x_fetch q_k65 51 = x_ldi 53 4 := rfl
theorem t65_51 (C : xF) (s n : Nat) (z : xS) : x_to q_k65 C s (n + 1) 51 z = x_nx q_k65 C s n ((x_ldi 53 4) C z) := x_to_at f65_51 C s n z
theorem f65_53 : x_fetch q_k65 53 = x_ldi 54 2 := rfl
theorem t65_53 (C : xF) (s n : Nat) (z : xS) : x_to q_k65 C s (n + 1) 53 z = x_nx q_k65 C s n ((x_ldi 54 2) C z) := x_to_at f65_53 C s n z
theorem f65_54 : x_fetch q_k65 54 = x_lda 55 1 := rfl
theorem t65_54 (C : xF) (s n : Nat) (z : xS) : x_to q_k65 C s (n + 1) 54 z = x_nx q_k65 C s n ((x_lda 55 1) C z) := x_to_at f65_54 C s n z
theorem f65_55 : x_fetch q_k65 55 = x_gf 58 4 1 := rfl
theorem t65_55 (C : xF) (s n : Nat) (z : xS) : x_to q_k65 C s (n + 1) 55 z = x_nx q_k65 C s n ((x_gf 58 4 1) C z) := x_to_at f65_55 C s n z
theorem f65_58 : x_fetch q_k65 58 = x_ldi 59 3 := rfl
theorem t65_58 (C : xF) (s n : Nat) (z : xS) : x_to q_k65 C s (n + 1) 58 z = x_nx q_k65 C s n ((x_ldi 59 3) C z) := x_to_at f65_58 C s n z
theorem f65_59 : x_fetch q_k65 59 = x_ald 60 0 := rfl
theorem t65_59 (C : xF) (s n : Nat) (z : xS) : x_to q_k65 C s (n + 1) 59 z = x_nx q_k65 C s n ((x_ald 60 0) C z) := x_to_at f65_59 C s n z
theorem f65_60 : x_fetch q_k65 60 = x_st (x_bin 61 (fun a b => a + b)) := rfl
theorem t65_60 (C : xF) (s n : Nat) (z : xS) : x_to q_k65 C s (n + 1) 60 z = x_nx q_k65 C s n ((x_st (x_bin 61 (fun a b => a + b))) C z) := x_to_at f65_60 C s n z
theorem f65_61 : x_fetch q_k65 61 = x_cv 64 66 3 2 := rfl
theorem t65_61 (C : xF) (s n : Nat) (z : xS) : x_to q_k65 C s (n + 1) 61 z = x_nx q_k65 C s n ((x_cv 64 66 3 2) C z) := x_to_at f65_61 C s n z
theorem f65_64 : x_fetch q_k65 64 = x_st (x_ifeq 77 67) := rfl
theorem t65_64 (C : xF) (s n : Nat) (z : xS) : x_to q_k65 C s (n + 1) 64 z = x_nx q_k65 C s n ((x_st (x_ifeq 77 67)) C z) := x_to_at f65_64 C s n z
theorem f65_67 : x_fetch q_k65 67 = x_lda 68 0 := rfl
theorem t65_67 (C : xF) (s n : Nat) (z : xS) : x_to q_k65 C s (n + 1) 67 z = x_nx q_k65 C s n ((x_lda 68 0) C z) := x_to_at f65_67 C s n z
theorem f65_68 : x_fetch q_k65 68 = x_gf 71 2 0 := rfl
theorem t65_68 (C : xF) (s n : Nat) (z : xS) : x_to q_k65 C s (n + 1) 68 z = x_nx q_k65 C s n ((x_gf 71 2 0) C z) := x_to_at f65_68 C s n z
theorem f65_71 : x_fetch q_k65 71 = x_cv 74 17 1 4 := rfl
theorem t65_71 (C : xF) (s n : Nat) (z : xS) : x_to q_k65 C s (n + 1) 71 z = x_nx q_k65 C s n ((x_cv 74 17 1 4) C z) := x_to_at f65_71 C s n z
theorem f65_74 : x_fetch q_k65 74 = x_st (x_ifne 79 77) := rfl
theorem t65_74 (C : xF) (s n : Nat) (z : xS) : x_to q_k65 C s (n + 1) 74 z = x_nx q_k65 C s n ((x_st (x_ifne 79 77)) C z) := x_to_at f65_74 C s n z
theorem f65_77 : x_fetch q_k65 77 = x_st (x_push 78 (.int (0))) := rfl
theorem t65_77 (C : xF) (s n : Nat) (z : xS) : x_to q_k65 C s (n + 1) 77 z = x_nx q_k65 C s n ((x_st (x_push 78 (.int (0)))) C z) := x_to_at f65_77 C s n z
theorem f65_78 : x_fetch q_k65 78 = x_ri (.boolean) := rfl
theorem t65_78 (C : xF) (s n : Nat) (z : xS) : x_to q_k65 C s (n + 1) 78 z = x_nx q_k65 C s n ((x_ri (.boolean)) C z) := x_to_at f65_78 C s n z
theorem f65_79 : x_fetch q_k65 79 = x_iinc 82 3 (1) := rfl
theorem t65_79 (C : xF) (s n : Nat) (z : xS) : x_to q_k65 C s (n + 1) 79 z = x_nx q_k65 C s n ((x_iinc 82 3 (1)) C z) := x_to_at f65_79 C s n z
theorem f65_82 : x_fetch q_k65 82 = x_st (x_goto 2) := rfl
theorem t65_82 (C : xF) (s n : Nat) (z : xS) : x_to q_k65 C s (n + 1) 82 z = x_nx q_k65 C s n ((x_st (x_goto 2)) C z) := x_to_at f65_82 C s n z
theorem f65_85 : x_fetch q_k65 85 = x_st (x_push 86 (.int (1))) := rfl
theorem t65_85 (C : xF) (s n : Nat) (z : xS) : x_to q_k65 C s (n + 1) 85 z = x_nx q_k65 C s n ((x_st (x_push 86 (.int (1)))) C z) := x_to_at f65_85 C s n z
theorem f65_86 : x_fetch q_k65 86 = x_ri (.boolean) := rfl
theorem t65_86 (C : xF) (s n : Nat) (z : xS) : x_to q_k65 C s (n + 1) 86 z = x_nx q_k65 C s n ((x_ri (.boolean)) C z) := x_to_at f65_86 C s n z
def cpC : List (Int × List Int) → List (Int × List Int) → Option (List (Int × List Int))
  | C, [] => some C
  | C, x :: t => if x.2.length ≤ 40 ∧ (x ∈ C ∨ (C.length + 1 ≤ 6 ∧ (flt C).length + x.2.length ≤ 40)) then cpC (adL C x) t else none
def ltP (P : List Int) (pl fi f1 f2 : Int) (sh : Nat) (D : List (Int × List Int)) : Nat → Nat → List (Int × List Int)
  | 0, _ => []
  | r + 1, q => if ((sh + stC D q : Nat) : Int) = f1 ∨ ((sh + stC D q : Nat) : Int) = f2 then ltP P pl fi f1 f2 sh D r (q + 1) else ((lC D q).1, atP P pl fi (sh + stC D q) (sh + stC D (q + 1))) :: ltP P pl fi f1 f2 sh D r (q + 1)
def litV (P : List Int) (fd : Nat → Nat) (K : Nat) (x : Int × List Int) : Int × List Int := (x.1, uV P fd K x.2)
theorem bZ_01 {b : Int} (h : b = 0 ∨ b = 1) : b = bZ (decide (b = 1)) := by
  rcases h with rfl | rfl <;> rfl
theorem LB.lu {w : Nat → xC} {C : List (Int × List Int)} {N : Nat} (d : Nat) (hN : 53 ≤ N) (h : LB w C) {b : Int} (hb : b = 0 ∨ b = 1) : ∃ w', Fr ksD w w' ∧ (∀ j, j ≠ 12 → j ≠ 15 → w' j = w j) ∧ LU w' C b [] ∧ Xc (d + 1) 15 [.ref 15, .int (iZ b)] (hp w N) (none, hp w' N) := by
  obtain ⟨S, E, B, o, hf, nS, lE, lB, hW, hg, f40, c6⟩ := h
  have X := m15 (w := w) (a := 12) (N := N) d (decide (b = 1)) hf ⟨by omega, by omega, by omega, by omega⟩ (by omega) (by omega)
  rw [← bZ_01 hb] at X
  obtain ⟨fa, fs, fe, fg⟩ := hf
  refine ⟨_, ((Fr.rf _ _).up (by decide)).up (by decide), fun j h1 h2 => by rw [uH_ne (by omega), uH_ne h1], ⟨S, E, sZ B C.length b, ⟨?_, ?_, ?_, ?_⟩, nS, lE, by rw [sZ_len]; exact lB, ⟨hW.1, hW.2.1, fun k hk => ?_⟩, hg, ?_, fun j hj => absurd hj (Nat.not_lt_zero _), by simp, f40, c6, fun s hs => by cases hs⟩, X⟩
  · rw [uH_ne (by decide), uH_at]
    simp [fC]
  · rw [uH_ne (by decide), uH_ne (by decide)]
    exact fs
  · rw [uH_ne (by decide), uH_ne (by decide)]
    exact fe
  · exact uH_at _ _ _
  · rw [gZ_sZ (by omega) (by omega) (by omega), if_neg (by omega)]
    exact hW.2.2 k hk
  · rw [gZ_sZ (by omega) (by omega) (by omega), if_pos rfl]
theorem LU.close {w : Nat → xC} {C : List (Int × List Int)} {N : Nat} {b : Int} {t : List Int} (d : Nat) (hN : 53 ≤ N) (h : LU w C b t) (hb : b = 0 ∨ b = 1) :
    ((b, t) ∈ C ∨ (C.length + 1 ≤ 6 ∧ (flt C).length + t.length ≤ 40) → ∃ w', Fr ksD w w' ∧ (∀ j, j ≠ 12 → j ≠ 14 → w' j = w j) ∧ LB w' (adL C (b, t)) ∧ Xc (d + 3) 17 [.ref 15] (hp w N) (some (.int (iZ 1)), hp w' N)) ∧
    (¬ ((b, t) ∈ C ∨ (C.length + 1 ≤ 6 ∧ (flt C).length + t.length ≤ 40)) → ∃ w', Fr ksD w w' ∧ (∀ j, j ≠ 12 → j ≠ 14 → w' j = w j) ∧ FF w' ∧ Xc (d + 3) 17 [.ref 15] (hp w N) (some (.int (iZ 0)), hp w' N)) := by
  obtain ⟨S, E, B, hf, nS, lE, lB, hW, hg, hB, ht, t40, f40, c6, hsg⟩ := h
  have hg2 : gV (C ++ [(b, t)]) := fun y hy => by
    rcases List.mem_append.mp hy with hy | hy
    · exact hg y hy
    · rw [List.mem_singleton] at hy
      rw [hy]
      exact ⟨hb, hsg⟩
  obtain ⟨E', e1, e2, X⟩ := m17 (w := w) (a := 12) (N := N) (x := (b, t)) d hf ⟨by omega, by omega, by omega, by omega⟩ hW hg2 ht hB rfl rfl (by omega) lE lB c6
  obtain ⟨fa, fs, fe, fg⟩ := hf
  obtain ⟨w', hw'⟩ : ∃ w', w' = uH (uH w 12 (fC 12 (adL C (b, t)).length (flt (adL C (b, t))).length (flt C).length)) 14 (cI 0 E') := ⟨_, rfl⟩
  have X' : Xc (d + 3) 17 [.ref 15] (hp w N) (some (.int (iZ (bZ (decide ((b, t) ∈ C ∨ (C.length + 1 ≤ 6 ∧ ((flt C).length : Int) + t.length ≤ 40)))))), hp w' N) := by rw [hw']; exact X
  have F : Fr ksD w w' := by rw [hw']; exact ((Fr.rf _ _).up (by decide)).up (by decide)
  have F2 : ∀ j, j ≠ 12 → j ≠ 14 → w' j = w j := fun j h1 h2 => by rw [hw', uH_ne h2, uH_ne h1]
  have hf' : fo w' 12 S E' B (adL C (b, t)).length (flt (adL C (b, t))).length (flt C).length := by
    rw [hw']
    refine ⟨?_, ?_, ?_, ?_⟩
    · rw [uH_ne (by decide), uH_at]
      simp [fC]
    · rw [uH_ne (by decide), uH_ne (by decide)]
      exact fs
    · exact uH_at _ _ _
    · rw [uH_ne (by decide), uH_ne (by decide)]
      exact fg
  refine ⟨fun h => ⟨w', F, F2, ⟨S, E', B, _, hf', nS, e1, lB, e2, ?_, ?_⟩, ?_⟩, fun h => ⟨w', F, F2, ⟨S, E', B, _, _, _, hf', nS, e1, lB⟩, ?_⟩⟩
  · unfold adL
    split
    · exact hg
    · exact hg2
  · unfold adL
    by_cases hm : (b, t) ∈ C
    · rw [if_pos hm]
      exact ⟨f40, c6⟩
    · rw [if_neg hm]
      rcases h with h | h
      · exact absurd h hm
      · rw [flt_app, List.length_append, List.length_append]
        have : flt [(b, t)] = t := by simp [flt]
        rw [this]
        simp only [List.length_singleton]
        omega
  · rw [decide_eq_true (by rcases h with h | h; exact Or.inl h; exact Or.inr (by omega)), bZ_t] at X'
    exact X'
  · rw [decide_eq_false (fun z => h (by rcases z with z | z; exact Or.inl z; exact Or.inr (by omega))), bZ_f] at X'
    exact X'
section CX
variable {N : Nat} {l : Int} {P Sy Ee Ro : List Int} {fd rk : Nat → Nat} {K : Nat} {one other f1 f2 pl fi : Int} {D : List (Int × List Int)} {a : Nat} {S E B : List Int} {o : Int}
set_option maxHeartbeats 2000000 in
theorem l65 (d : Nat) (hN : 53 ≤ N) (sh : Nat) (ha : ∀ j, a ≤ j → j ≤ a + 3 → ¬ j ∈ ksD) (hfN : fN N a S E B) (hW : FW D S E B) (lE : D.length ≤ E.length) (lB : D.length ≤ B.length) (hg : gV D) (D6 : D.length ≤ 6) (f12 : (-1 ≤ f1 ∧ f1 < 100) ∧ (-1 ≤ f2 ∧ f2 < 100)) (pr : -1 ≤ pl ∧ pl < 100) (hsh : sh + (flt D).length ≤ P.length)
    (hpl : ∀ q, q < D.length → ((sh + stC D q : Nat) : Int) ≤ pl → pl < ((sh + stC D (q + 1) : Nat) : Int) → ∃ p f : Nat, pl = p ∧ fi = f ∧ f < P.length ∧ p + (tm P p).length ≤ sh + stC D (q + 1)) :
    ∀ (r q : Nat) (C : List (Int × List Int)) (w : Nat → xC) (lv : xL), q + r = D.length → fo w a S E B D.length (flt D).length o → w 11 = dO one other f1 f2 pl fi → LB w C → GS l w → GB w P Sy Ee Ro l fd rk K → c1 lv → x_lk lv 0 = some (.ref 14) → x_lk lv 1 = some (.ref (a + 3)) → x_lk lv 2 = some (.int (iZ (sh : Int))) → x_lk lv 3 = some (.int (iZ (q : Int))) →
    (∀ C', cpC C ((ltP P pl fi f1 f2 sh D r q).map (litV P fd K)) = some C' → ∃ w', Fr ksD w w' ∧ LB w' C' ∧ GS l w' ∧ Gx q_k65 (d + 4) 2 (lv, [], hp w N) (some (.int (iZ 1)), hp w' N)) ∧
    (cpC C ((ltP P pl fi f1 f2 sh D r q).map (litV P fd K)) = none → ∃ w', Fr ksD w w' ∧ FF w' ∧ GS l w' ∧ Gx q_k65 (d + 4) 2 (lv, [], hp w N) (some (.int (iZ 0)), hp w' N)) := by
  intro r
  induction r with
  | zero =>
    intro q C w lv hk hf hd hL hG hB hc l0 l1 l2 l3
    have hfa := hf.1
    refine ⟨fun C' hC' => ⟨w, Fr.rf _ _, ?_, hG, Gx.fin 20 Cs.tt (fun X _ => ?_)⟩, fun h => by cases h⟩
    · injection hC' with h
      rw [← h]; exact hL
    · obtain ⟨n, hn⟩ : ∃ n : Int, n = (D.length : Int) := ⟨_, rfl⟩
      obtain ⟨k, hk'⟩ : ∃ k : Int, k = (q : Int) := ⟨_, rfl⟩
      rw [← hn] at hfa
      rw [← hk'] at l3
      have b1 : n ≤ k := by omega
      have b2 : k ≤ 6 := by omega
      have b3 : 0 ≤ n := by omega
      have na := hfN.1
      simp (disch := first | (refine c1_id ?_; assumption) | (refine c1_st rfl ?_; repeat (first | assumption | refine c1_st rfl ?_)) | omega) [nx_l, nx_r, nx_n, x_st, x_push, x_bin, x_div, x_un, x_dup, x_pop, x_dup2, x_goto, x_ifeq, x_ifne, x_iflt, x_ifge, x_ifgt, x_ifle, x_iceq, x_icne, x_iclt, x_icge, x_icgt, x_icle, x_ifnull, x_ifnonnull, x_ldi, x_lda, x_sti, x_sta, x_iinc, x_gf, x_pf, x_ald, x_ast, x_aln, x_len, x_cl_, x_cv, x_cs, x_rc, x_r0, x_isT, x_oi, x_rv, x_ri, x_ra, Value.category, t65_0, t65_1, t65_2, t65_3, t65_4, t65_7, t65_10, t65_11, t65_12, t65_13, t65_16, t65_17, t65_19, t65_21, t65_22, t65_25, t65_28, t65_30, t65_31, t65_34, t65_37, t65_38, t65_41, t65_42, t65_45, t65_46, t65_47, t65_50, t65_51, t65_53, t65_54, t65_55, t65_58, t65_59, t65_60, t65_61, t65_64, t65_67, t65_68, t65_71, t65_74, t65_77, t65_78, t65_79, t65_82, t65_85, t65_86, lk_s, hp_get, hp_set, uH_at, uH_ne, uH_upd, uH_swap, iZ_add, iZ_sub, iZ_mul, iZ_neg, iZ_lt, iZ_le, iZ_eq, iZ_div, iZ_of, ix_Z, gZ_map, gZ_mapI, gZ_map', le_0, le_s, sZ_map, sZ_len, bZ_0, bZ_inj, bZ_t, bZ_f, nr_i, nr_0, nr_1, nr_b, ft_i, ft_b, ft_0, ft_1, zl_0, zl_1, l0, l1, l3, hfa, b1, -List.filter_filter, -List.getElem?_map, -List.getD_eq_getElem?_getD]
  | succ r ih =>
    intro q C w lv hk hf hd hL hG hB hc l0 l1 l2 l3
    have hq : q < D.length := by omega
    have na := hfN.1
    have nE := hfN.2.2.1
    have nB := hfN.2.2.2
    obtain ⟨hfa, hfs, hfe, hfg⟩ := id hf
    have hpP : (P.length : Int) ≤ 80 := by
      have v1 := hB.2.2.2.2.2.2.2.1.1
      have v2 := hB.2.2.2.2.2.2.2.1.2.1
      omega
    have hss := stC_succ hq
    have hsl : stC D (q + 1) ≤ (flt D).length := by
      rw [← stC_all D]
      exact stC_mono (by omega)
    obtain ⟨fr, hfr⟩ : ∃ fr, fr = sh + stC D q := ⟨_, rfl⟩
    obtain ⟨to_, hto⟩ : ∃ to_, to_ = sh + stC D (q + 1) := ⟨_, rfl⟩
    have X1 := m11 (d + 3) (q : Int) hf hfN (by omega) (by omega)
    rw [hW.st (by omega)] at X1
    have e1 : (sh : Int) + (stC D q : Int) = (fr : Int) := by omega
    have e2 : (sh : Int) + (stC D (q + 1) : Int) = (to_ : Int) := by omega
    have hE : gZ E (q : Int) = stC D (q + 1) := hW.2.1 q hq
    have hBq : gZ B (q : Int) = (lC D q).1 := hW.2.2 q hq
    have hb01 := (hg _ (lC_mem hq)).1
    have elt : ltP P pl fi f1 f2 sh D (r + 1) q = if (fr : Int) = f1 ∨ (fr : Int) = f2 then ltP P pl fi f1 f2 sh D r (q + 1) else ((lC D q).1, atP P pl fi fr to_) :: ltP P pl fi f1 f2 sh D r (q + 1) := by rw [hfr, hto]; rfl
    rw [elt]
    obtain ⟨sgn, hsgn⟩ : ∃ sgn : Int, sgn = (lC D q).1 := ⟨_, rfl⟩
    rw [← hsgn] at hBq hb01 ⊢
    have C4 : c1 ((4, .int (iZ (fr : Int))) :: lv.filter (x_keep 4)) := c1_st (i := 4) (v := .int (iZ (fr : Int))) rfl hc
    have C3 := c1_st (i := 3) (v := .int (iZ ((q : Int) + 1))) rfl C4
    obtain ⟨n, hn⟩ : ∃ n : Int, n = (D.length : Int) := ⟨_, rfl⟩
    obtain ⟨k, hk'⟩ : ∃ k : Int, k = (q : Int) := ⟨_, rfl⟩
    have b1 : ¬ n ≤ k := by omega
    have b2 : k < 6 := by omega
    have b0 : 0 ≤ k := by omega
    have b3 : n ≤ 6 := by omega
    have b4 : (fr : Int) ≤ 80 := by omega
    have b5 : (to_ : Int) ≤ 80 := by omega
    have b6 : 0 ≤ (fr : Int) := by omega
    have b7 : 0 ≤ (sh : Int) := by omega
    have b8 : (sh : Int) ≤ 80 := by omega
    have b9 : k < E.length := by omega
    have b10 : k < B.length := by omega
    have f11 := f12.1.1
    have f12_ := f12.1.2
    have f21 := f12.2.1
    have f22 := f12.2.2
    have kE : k < (E.length : Int) := by omega
    rw [← hk'] at X1 hE hBq
    have l3k : x_lk lv 3 = some (.int (iZ k)) := by rw [hk']; exact l3
    have hfak := hfa
    rw [← hn] at hfak
    have I := fun (C' : List (Int × List Int)) (w' : Nat → xC) (F : Fr ksD w w') (hL' : LB w' C') (hG' : GS l w') => ih (q + 1) C' w' _ (by omega) (⟨(F a (ha a (by omega) (by omega))).trans hfa, (F (a + 1) (ha _ (by omega) (by omega))).trans hfs, (F (a + 2) (ha _ (by omega) (by omega))).trans hfe, (F (a + 3) (ha _ (by omega) (by omega))).trans hfg⟩) ((F 11 (by decide)).trans hd) hL' hG' (hB.mvD F) C3 (by rw [lk_s C4, lk_s hc]; exact l0) (by rw [lk_s C4, lk_s hc]; exact l1) (by rw [lk_s C4, lk_s hc]; exact l2) (by rw [lk_s C4]; rfl)
    by_cases hskip : (fr : Int) = f1 ∨ (fr : Int) = f2
    · rw [if_pos hskip]
      have hrun : ∀ res, Gx q_k65 (d + 4) 2 ((3, .int (iZ ((q : Int) + 1))) :: List.filter (x_keep 3) ((4, .int (iZ (fr : Int))) :: lv.filter (x_keep 4)), [], hp w N) res → Gx q_k65 (d + 4) 2 (lv, [], hp w N) res := fun res hres => by
        rw [← hk'] at hres
        refine Gx.run 60 X1 (fun X mm => ?_) hres
        by_cases c1_ : (fr : Int) = f1
        · simp (disch := first | (refine c1_id ?_; assumption) | (refine c1_st rfl ?_; repeat (first | assumption | refine c1_st rfl ?_)) | omega) [nx_l, nx_r, nx_n, x_st, x_push, x_bin, x_div, x_un, x_dup, x_pop, x_dup2, x_goto, x_ifeq, x_ifne, x_iflt, x_ifge, x_ifgt, x_ifle, x_iceq, x_icne, x_iclt, x_icge, x_icgt, x_icle, x_ifnull, x_ifnonnull, x_ldi, x_lda, x_sti, x_sta, x_iinc, x_gf, x_pf, x_ald, x_ast, x_aln, x_len, x_cl_, x_cv, x_cs, x_rc, x_r0, x_isT, x_oi, x_rv, x_ri, x_ra, Value.category, t65_0, t65_1, t65_2, t65_3, t65_4, t65_7, t65_10, t65_11, t65_12, t65_13, t65_16, t65_17, t65_19, t65_21, t65_22, t65_25, t65_28, t65_30, t65_31, t65_34, t65_37, t65_38, t65_41, t65_42, t65_45, t65_46, t65_47, t65_50, t65_51, t65_53, t65_54, t65_55, t65_58, t65_59, t65_60, t65_61, t65_64, t65_67, t65_68, t65_71, t65_74, t65_77, t65_78, t65_79, t65_82, t65_85, t65_86, lk_s, hp_get, hp_set, uH_at, uH_ne, uH_upd, uH_swap, iZ_add, iZ_sub, iZ_mul, iZ_neg, iZ_lt, iZ_le, iZ_eq, iZ_div, iZ_of, ix_Z, gZ_map, gZ_mapI, gZ_map', le_0, le_s, sZ_map, sZ_len, bZ_0, bZ_inj, bZ_t, bZ_f, nr_i, nr_0, nr_1, nr_b, ft_i, ft_b, ft_0, ft_1, zl_0, zl_1, l0, l1, l2, l3k, hfak, hd, b1, e1, c1_, mm, dO, -List.filter_filter, -List.getElem?_map, -List.getD_eq_getElem?_getD]
        · have c2_ : (fr : Int) = f2 := by omega
          have c3_ : ¬ f2 = f1 := by omega
          simp (disch := first | (refine c1_id ?_; assumption) | (refine c1_st rfl ?_; repeat (first | assumption | refine c1_st rfl ?_)) | omega) [nx_l, nx_r, nx_n, x_st, x_push, x_bin, x_div, x_un, x_dup, x_pop, x_dup2, x_goto, x_ifeq, x_ifne, x_iflt, x_ifge, x_ifgt, x_ifle, x_iceq, x_icne, x_iclt, x_icge, x_icgt, x_icle, x_ifnull, x_ifnonnull, x_ldi, x_lda, x_sti, x_sta, x_iinc, x_gf, x_pf, x_ald, x_ast, x_aln, x_len, x_cl_, x_cv, x_cs, x_rc, x_r0, x_isT, x_oi, x_rv, x_ri, x_ra, Value.category, t65_0, t65_1, t65_2, t65_3, t65_4, t65_7, t65_10, t65_11, t65_12, t65_13, t65_16, t65_17, t65_19, t65_21, t65_22, t65_25, t65_28, t65_30, t65_31, t65_34, t65_37, t65_38, t65_41, t65_42, t65_45, t65_46, t65_47, t65_50, t65_51, t65_53, t65_54, t65_55, t65_58, t65_59, t65_60, t65_61, t65_64, t65_67, t65_68, t65_71, t65_74, t65_77, t65_78, t65_79, t65_82, t65_85, t65_86, lk_s, hp_get, hp_set, uH_at, uH_ne, uH_upd, uH_swap, iZ_add, iZ_sub, iZ_mul, iZ_neg, iZ_lt, iZ_le, iZ_eq, iZ_div, iZ_of, ix_Z, gZ_map, gZ_mapI, gZ_map', le_0, le_s, sZ_map, sZ_len, bZ_0, bZ_inj, bZ_t, bZ_f, nr_i, nr_0, nr_1, nr_b, ft_i, ft_b, ft_0, ft_1, zl_0, zl_1, l0, l1, l2, l3k, hfak, hd, b1, e1, c2_, c3_, mm, dO, -List.filter_filter, -List.getElem?_map, -List.getD_eq_getElem?_getD]
      have J := I C w (Fr.rf _ _) hL hG
      exact ⟨fun C' hC' => by
        obtain ⟨w', i1, i2, i3, i4⟩ := J.1 C' hC'
        exact ⟨w', i1, i2, i3, hrun _ i4⟩, fun h => by
        obtain ⟨w', i1, i2, i3, i4⟩ := J.2 h
        exact ⟨w', i1, i2, i3, hrun _ i4⟩⟩
    · rw [if_neg hskip, List.map_cons]
      have c1_ : ¬ (fr : Int) = f1 := fun z => hskip (Or.inl z)
      have c2_ : ¬ (fr : Int) = f2 := fun z => hskip (Or.inr z)
      obtain ⟨w1, F1, G1, L1, X2⟩ := hL.lu (N := N) (d + 3) hN hb01
      have hG1 : GS l w1 := by
        obtain ⟨wt, Os, h1, h2, h3⟩ := hG
        exact ⟨wt, Os, (G1 16 (by decide) (by decide)).trans h1, (G1 22 (by decide) (by decide)).trans h2, h3⟩
      have A := m66 (P := P) (fd := fd) (K := K) (to_ := to_) d hN (by omega) fr (by omega) pr (fun h1 h2 => by
        rw [hfr] at h1
        rw [hto] at h2 ⊢
        exact hpl q hq h1 h2) ((F1 11 (by decide)).trans hd) L1 hG1 (hB.mvD F1)
      rw [List.length_nil, Nat.zero_add, List.nil_append] at A
      have hd1 : w1 11 = dO one other f1 f2 pl fi := (F1 11 (by decide)).trans hd
      have hE1 : w1 (a + 2) = cI 0 E := (F1 (a + 2) (ha _ (by omega) (by omega))).trans hfe
      have hfa1 : w1 a = _ := (F1 a (ha _ (by omega) (by omega))).trans hfak
      obtain ⟨Sr, Er, Br, cr, lr, or_, fr12, _⟩ := hL.ff
      have f12a := fr12.1
      have elv : litV P fd K (sgn, atP P pl fi fr to_) = (sgn, uV P fd K (atP P pl fi fr to_)) := rfl
      rw [elv]
      unfold cpC
      by_cases hfit : (uV P fd K (atP P pl fi fr to_)).length ≤ 40
      · obtain ⟨w2, F2, L2, G2, X3⟩ := A.1 hfit
        have F2' : Fr ksD w1 w2 := F2.sub (by decide)
        have hd2 : w2 11 = dO one other f1 f2 pl fi := (F2' 11 (by decide)).trans hd1
        have Q := L2.close (N := N) (d + 1) hN hb01
        obtain ⟨Sr2, Er2, Br2, cr2, lr2, or2, fr22, _⟩ := L2.ff
        have f22a := fr22.1
        by_cases hcl : (sgn, uV P fd K (atP P pl fi fr to_)) ∈ C ∨ (C.length + 1 ≤ 6 ∧ (flt C).length + (uV P fd K (atP P pl fi fr to_)).length ≤ 40)
        · obtain ⟨w3, F3, G3, L3, X4⟩ := Q.1 hcl
          have hG3 : GS l w3 := by
            obtain ⟨wt, Os, h1, h2, h3⟩ := G2
            exact ⟨wt, Os, (G3 16 (by decide) (by decide)).trans h1, (G3 22 (by decide) (by decide)).trans h2, h3⟩
          have FF3 := (F1.tr F2').tr F3
          rw [if_pos ⟨hfit, hcl⟩]
          have hrun : ∀ res, Gx q_k65 (d + 4) 2 ((3, .int (iZ ((q : Int) + 1))) :: List.filter (x_keep 3) ((4, .int (iZ (fr : Int))) :: lv.filter (x_keep 4)), [], hp w3 N) res → Gx q_k65 (d + 4) 2 (lv, [], hp w N) res := fun res hres => by
            rw [← hk'] at hres
            refine Gx.run 90 (((X1.and X2).and X3).and X4) (fun X mm => ?_) hres
            obtain ⟨⟨⟨q1, q2⟩, q3⟩, q4⟩ := mm
            simp (disch := first | (refine c1_id ?_; assumption) | (refine c1_st rfl ?_; repeat (first | assumption | refine c1_st rfl ?_)) | omega) [nx_l, nx_r, nx_n, x_st, x_push, x_bin, x_div, x_un, x_dup, x_pop, x_dup2, x_goto, x_ifeq, x_ifne, x_iflt, x_ifge, x_ifgt, x_ifle, x_iceq, x_icne, x_iclt, x_icge, x_icgt, x_icle, x_ifnull, x_ifnonnull, x_ldi, x_lda, x_sti, x_sta, x_iinc, x_gf, x_pf, x_ald, x_ast, x_aln, x_len, x_cl_, x_cv, x_cs, x_rc, x_r0, x_isT, x_oi, x_rv, x_ri, x_ra, Value.category, t65_0, t65_1, t65_2, t65_3, t65_4, t65_7, t65_10, t65_11, t65_12, t65_13, t65_16, t65_17, t65_19, t65_21, t65_22, t65_25, t65_28, t65_30, t65_31, t65_34, t65_37, t65_38, t65_41, t65_42, t65_45, t65_46, t65_47, t65_50, t65_51, t65_53, t65_54, t65_55, t65_58, t65_59, t65_60, t65_61, t65_64, t65_67, t65_68, t65_71, t65_74, t65_77, t65_78, t65_79, t65_82, t65_85, t65_86, lk_s, hp_get, hp_set, uH_at, uH_ne, uH_upd, uH_swap, iZ_add, iZ_sub, iZ_mul, iZ_neg, iZ_lt, iZ_le, iZ_eq, iZ_div, iZ_of, ix_Z, gZ_map, gZ_mapI, gZ_map', le_0, le_s, sZ_map, sZ_len, bZ_0, bZ_inj, bZ_t, bZ_f, nr_i, nr_0, nr_1, nr_b, ft_i, ft_b, ft_0, ft_1, zl_0, zl_1, l0, l1, l2, l3k, hfak, hfg, hBq, hE, hd, hd1, hd2, hE1, hfa1, f12a, f22a, b1, e1, e2, c1_, c2_, q1, q2, q3, q4, dO, -List.filter_filter, -List.getElem?_map, -List.getD_eq_getElem?_getD]
          have J := I _ w3 FF3 L3 hG3
          exact ⟨fun C' hC' => by
            obtain ⟨w', i1, i2, i3, i4⟩ := J.1 C' hC'
            exact ⟨w', FF3.tr i1, i2, i3, hrun _ i4⟩, fun h => by
            obtain ⟨w', i1, i2, i3, i4⟩ := J.2 h
            exact ⟨w', FF3.tr i1, i2, i3, hrun _ i4⟩⟩
        · obtain ⟨w3, F3, G3, L3, X4⟩ := Q.2 hcl
          have hG3 : GS l w3 := by
            obtain ⟨wt, Os, h1, h2, h3⟩ := G2
            exact ⟨wt, Os, (G3 16 (by decide) (by decide)).trans h1, (G3 22 (by decide) (by decide)).trans h2, h3⟩
          rw [if_neg (fun z => hcl z.2)]
          refine ⟨fun C' hC' => (by cases hC'), fun _ => ⟨w3, (F1.tr F2').tr F3, L3, hG3, Gx.fin 90 (((X1.and X2).and X3).and X4) (fun X mm => ?_)⟩⟩
          obtain ⟨⟨⟨q1, q2⟩, q3⟩, q4⟩ := mm
          simp (disch := first | (refine c1_id ?_; assumption) | (refine c1_st rfl ?_; repeat (first | assumption | refine c1_st rfl ?_)) | omega) [nx_l, nx_r, nx_n, x_st, x_push, x_bin, x_div, x_un, x_dup, x_pop, x_dup2, x_goto, x_ifeq, x_ifne, x_iflt, x_ifge, x_ifgt, x_ifle, x_iceq, x_icne, x_iclt, x_icge, x_icgt, x_icle, x_ifnull, x_ifnonnull, x_ldi, x_lda, x_sti, x_sta, x_iinc, x_gf, x_pf, x_ald, x_ast, x_aln, x_len, x_cl_, x_cv, x_cs, x_rc, x_r0, x_isT, x_oi, x_rv, x_ri, x_ra, Value.category, t65_0, t65_1, t65_2, t65_3, t65_4, t65_7, t65_10, t65_11, t65_12, t65_13, t65_16, t65_17, t65_19, t65_21, t65_22, t65_25, t65_28, t65_30, t65_31, t65_34, t65_37, t65_38, t65_41, t65_42, t65_45, t65_46, t65_47, t65_50, t65_51, t65_53, t65_54, t65_55, t65_58, t65_59, t65_60, t65_61, t65_64, t65_67, t65_68, t65_71, t65_74, t65_77, t65_78, t65_79, t65_82, t65_85, t65_86, lk_s, hp_get, hp_set, uH_at, uH_ne, uH_upd, uH_swap, iZ_add, iZ_sub, iZ_mul, iZ_neg, iZ_lt, iZ_le, iZ_eq, iZ_div, iZ_of, ix_Z, gZ_map, gZ_mapI, gZ_map', le_0, le_s, sZ_map, sZ_len, bZ_0, bZ_inj, bZ_t, bZ_f, nr_i, nr_0, nr_1, nr_b, ft_i, ft_b, ft_0, ft_1, zl_0, zl_1, l0, l1, l2, l3k, hfak, hfg, hBq, hE, hd, hd1, hd2, hE1, hfa1, f12a, f22a, b1, e1, e2, c1_, c2_, q1, q2, q3, q4, dO, -List.filter_filter, -List.getElem?_map, -List.getD_eq_getElem?_getD]
      · obtain ⟨w2, F2, L2, G2, X3⟩ := A.2 (by omega)
        have F2' : Fr ksD w1 w2 := F2.sub (by decide)
        rw [if_neg (fun z => hfit z.1)]
        refine ⟨fun C' hC' => (by cases hC'), fun _ => ⟨w2, F1.tr F2', L2, G2, Gx.fin 90 ((X1.and X2).and X3) (fun X mm => ?_)⟩⟩
        obtain ⟨⟨q1, q2⟩, q3⟩ := mm
        simp (disch := first | (refine c1_id ?_; assumption) | (refine c1_st rfl ?_; repeat (first | assumption | refine c1_st rfl ?_)) | omega) [nx_l, nx_r, nx_n, x_st, x_push, x_bin, x_div, x_un, x_dup, x_pop, x_dup2, x_goto, x_ifeq, x_ifne, x_iflt, x_ifge, x_ifgt, x_ifle, x_iceq, x_icne, x_iclt, x_icge, x_icgt, x_icle, x_ifnull, x_ifnonnull, x_ldi, x_lda, x_sti, x_sta, x_iinc, x_gf, x_pf, x_ald, x_ast, x_aln, x_len, x_cl_, x_cv, x_cs, x_rc, x_r0, x_isT, x_oi, x_rv, x_ri, x_ra, Value.category, t65_0, t65_1, t65_2, t65_3, t65_4, t65_7, t65_10, t65_11, t65_12, t65_13, t65_16, t65_17, t65_19, t65_21, t65_22, t65_25, t65_28, t65_30, t65_31, t65_34, t65_37, t65_38, t65_41, t65_42, t65_45, t65_46, t65_47, t65_50, t65_51, t65_53, t65_54, t65_55, t65_58, t65_59, t65_60, t65_61, t65_64, t65_67, t65_68, t65_71, t65_74, t65_77, t65_78, t65_79, t65_82, t65_85, t65_86, lk_s, hp_get, hp_set, uH_at, uH_ne, uH_upd, uH_swap, iZ_add, iZ_sub, iZ_mul, iZ_neg, iZ_lt, iZ_le, iZ_eq, iZ_div, iZ_of, ix_Z, gZ_map, gZ_mapI, gZ_map', le_0, le_s, sZ_map, sZ_len, bZ_0, bZ_inj, bZ_t, bZ_f, nr_i, nr_0, nr_1, nr_b, ft_i, ft_b, ft_0, ft_1, zl_0, zl_1, l0, l1, l2, l3k, hfak, hfg, hBq, hE, hd, hd1, hE1, hfa1, f12a, b1, e1, e2, c1_, c2_, q1, q2, q3, dO, -List.filter_filter, -List.getElem?_map, -List.getD_eq_getElem?_getD]
theorem m65 (d : Nat) (hN : 53 ≤ N) (sh : Nat) (ha : ∀ j, a ≤ j → j ≤ a + 3 → ¬ j ∈ ksD) (hfN : fN N a S E B) (hW : FW D S E B) (lE : D.length ≤ E.length) (lB : D.length ≤ B.length) (hg : gV D) (D6 : D.length ≤ 6) (f12 : (-1 ≤ f1 ∧ f1 < 100) ∧ (-1 ≤ f2 ∧ f2 < 100)) (pr : -1 ≤ pl ∧ pl < 100) (hsh : sh + (flt D).length ≤ P.length)
    (hpl : ∀ q, q < D.length → ((sh + stC D q : Nat) : Int) ≤ pl → pl < ((sh + stC D (q + 1) : Nat) : Int) → ∃ p f : Nat, pl = p ∧ fi = f ∧ f < P.length ∧ p + (tm P p).length ≤ sh + stC D (q + 1)) {C : List (Int × List Int)} {w : Nat → xC} (hf : fo w a S E B D.length (flt D).length o) (hd : w 11 = dO one other f1 f2 pl fi) (hL : LB w C) (hG : GS l w) (hB : GB w P Sy Ee Ro l fd rk K) :
    (∀ C', cpC C ((ltP P pl fi f1 f2 sh D D.length 0).map (litV P fd K)) = some C' → ∃ w', Fr ksD w w' ∧ LB w' C' ∧ GS l w' ∧ Xc (d + 5) 65 [.ref 14, .ref (a + 3), .int (iZ (sh : Int))] (hp w N) (some (.int (iZ 1)), hp w' N)) ∧
    (cpC C ((ltP P pl fi f1 f2 sh D D.length 0).map (litV P fd K)) = none → ∃ w', Fr ksD w w' ∧ FF w' ∧ GS l w' ∧ Xc (d + 5) 65 [.ref 14, .ref (a + 3), .int (iZ (sh : Int))] (hp w N) (some (.int (iZ 0)), hp w' N)) := by
  have hc : c1 (lv_args 0 [.ref 14, .ref (a + 3), .int (iZ (sh : Int))]) := by simp [c1, lv_args, Value.category]
  have l0 : x_lk (lv_args 0 [.ref 14, .ref (a + 3), .int (iZ (sh : Int))]) 0 = some (.ref 14) := rfl
  have l1 : x_lk (lv_args 0 [.ref 14, .ref (a + 3), .int (iZ (sh : Int))]) 1 = some (.ref (a + 3)) := rfl
  have l2 : x_lk (lv_args 0 [.ref 14, .ref (a + 3), .int (iZ (sh : Int))]) 2 = some (.int (iZ (sh : Int))) := rfl
  have C3 := c1_st (i := 3) (v := .int (iZ 0)) rfl hc
  have I := l65 (P := P) (fd := fd) (K := K) d hN sh ha hfN hW lE lB hg D6 f12 pr hsh hpl D.length 0 C w _ (by omega) hf hd hL hG hB C3 (by rw [lk_s hc]; exact l0) (by rw [lk_s hc]; exact l1) (by rw [lk_s hc]; exact l2) (by rw [lk_s hc]; rfl)
  have g0 : ∀ res, Gx q_k65 (d + 4) 2 ((3, .int (iZ 0)) :: List.filter (x_keep 3) (lv_args 0 [.ref 14, .ref (a + 3), .int (iZ (sh : Int))]), [], hp w N) res → Gx q_k65 (d + 4) 0 ((lv_args 0 [.ref 14, .ref (a + 3), .int (iZ (sh : Int))]), [], hp w N) res := fun res hgg => by
    generalize lv_args 0 [.ref 14, .ref (a + 3), .int (iZ (sh : Int))] = lv at hc l0 l1 l2 hgg
    refine Gx.run 10 Cs.tt (fun X _ => ?_) hgg
    simp (disch := first | (refine c1_id ?_; assumption) | (refine c1_st rfl ?_; repeat (first | assumption | refine c1_st rfl ?_)) | omega) [nx_l, nx_r, nx_n, x_st, x_push, x_bin, x_div, x_un, x_dup, x_pop, x_dup2, x_goto, x_ifeq, x_ifne, x_iflt, x_ifge, x_ifgt, x_ifle, x_iceq, x_icne, x_iclt, x_icge, x_icgt, x_icle, x_ifnull, x_ifnonnull, x_ldi, x_lda, x_sti, x_sta, x_iinc, x_gf, x_pf, x_ald, x_ast, x_aln, x_len, x_cl_, x_cv, x_cs, x_rc, x_r0, x_isT, x_oi, x_rv, x_ri, x_ra, Value.category, t65_0, t65_1, t65_2, t65_3, t65_4, t65_7, t65_10, t65_11, t65_12, t65_13, t65_16, t65_17, t65_19, t65_21, t65_22, t65_25, t65_28, t65_30, t65_31, t65_34, t65_37, t65_38, t65_41, t65_42, t65_45, t65_46, t65_47, t65_50, t65_51, t65_53, t65_54, t65_55, t65_58, t65_59, t65_60, t65_61, t65_64, t65_67, t65_68, t65_71, t65_74, t65_77, t65_78, t65_79, t65_82, t65_85, t65_86, lk_s, hp_get, hp_set, uH_at, uH_ne, uH_upd, uH_swap, iZ_add, iZ_sub, iZ_mul, iZ_neg, iZ_lt, iZ_le, iZ_eq, iZ_div, iZ_of, ix_Z, gZ_map, gZ_mapI, gZ_map', le_0, le_s, sZ_map, sZ_len, bZ_0, bZ_inj, bZ_t, bZ_f, nr_i, nr_0, nr_1, nr_b, ft_i, ft_b, ft_0, ft_1, zl_0, zl_1, l1, -List.filter_filter, -List.getElem?_map, -List.getD_eq_getElem?_getD]
  refine ⟨fun C' h => ?_, fun h => ?_⟩
  · obtain ⟨w', i1, i2, i3, i4⟩ := I.1 C' h
    exact ⟨w', i1, i2, i3, Xc.of rfl (by simp [lg_sl, Value.category]) (g0 _ i4) (sz_le i1 hL.ff i2.ff hG i3)⟩
  · obtain ⟨w', i1, i2, i3, i4⟩ := I.2 h
    exact ⟨w', i1, i2, i3, Xc.of rfl (by simp [lg_sl, Value.category]) (g0 _ i4) (sz_le i1 hL.ff i2 hG i3)⟩
end CX
