/-! the class: atoms and literals are copied -/
theorem f66_0 : x_fetch q_k66 0 = x_lda 1 0 := rfl
theorem t66_0 (C : xF) (s n : Nat) (z : xS) : x_to q_k66 C s (n + 1) 0 z = x_nx q_k66 C s n ((x_lda 1 0) C z) := x_to_at f66_0 C s n z
theorem f66_1 : x_fetch q_k66 1 = x_gf 4 2 6 := rfl
theorem t66_1 (C : xF) (s n : Nat) (z : xS) : x_to q_k66 C s (n + 1) 1 z = x_nx q_k66 C s n ((x_gf 4 2 6) C z) := x_to_at f66_1 C s n z
theorem f66_4 : x_fetch q_k66 4 = x_ldi 5 1 := rfl
theorem t66_4 (C : xF) (s n : Nat) (z : xS) : x_to q_k66 C s (n + 1) 4 z = x_nx q_k66 C s n ((x_ldi 5 1) C z) := x_to_at f66_4 C s n z
theorem f66_5 : x_fetch q_k66 5 = x_st (x_iclt 16 8) := rfl
theorem t66_5 (C : xF) (s n : Nat) (z : xS) : x_to q_k66 C s (n + 1) 5 z = x_nx q_k66 C s n ((x_st (x_iclt 16 8)) C z) := x_to_at f66_5 C s n z
theorem f66_8 : x_fetch q_k66 8 = x_lda 9 0 := rfl
theorem t66_8 (C : xF) (s n : Nat) (z : xS) : x_to q_k66 C s (n + 1) 8 z = x_nx q_k66 C s n ((x_lda 9 0) C z) := x_to_at f66_8 C s n z
theorem f66_9 : x_fetch q_k66 9 = x_gf 12 2 6 := rfl
theorem t66_9 (C : xF) (s n : Nat) (z : xS) : x_to q_k66 C s (n + 1) 9 z = x_nx q_k66 C s n ((x_gf 12 2 6) C z) := x_to_at f66_9 C s n z
theorem f66_12 : x_fetch q_k66 12 = x_ldi 13 2 := rfl
theorem t66_12 (C : xF) (s n : Nat) (z : xS) : x_to q_k66 C s (n + 1) 12 z = x_nx q_k66 C s n ((x_ldi 13 2) C z) := x_to_at f66_12 C s n z
theorem f66_13 : x_fetch q_k66 13 = x_st (x_iclt 30 16) := rfl
theorem t66_13 (C : xF) (s n : Nat) (z : xS) : x_to q_k66 C s (n + 1) 13 z = x_nx q_k66 C s n ((x_st (x_iclt 30 16)) C z) := x_to_at f66_13 C s n z
theorem f66_16 : x_fetch q_k66 16 = x_lda 17 0 := rfl
theorem t66_16 (C : xF) (s n : Nat) (z : xS) : x_to q_k66 C s (n + 1) 16 z = x_nx q_k66 C s n ((x_lda 17 0) C z) := x_to_at f66_16 C s n z
theorem f66_17 : x_fetch q_k66 17 = x_gf 20 2 1 := rfl
theorem t66_17 (C : xF) (s n : Nat) (z : xS) : x_to q_k66 C s (n + 1) 17 z = x_nx q_k66 C s n ((x_gf 20 2 1) C z) := x_to_at f66_17 C s n z
theorem f66_20 : x_fetch q_k66 20 = x_ldi 21 1 := rfl
theorem t66_20 (C : xF) (s n : Nat) (z : xS) : x_to q_k66 C s (n + 1) 20 z = x_nx q_k66 C s n ((x_ldi 21 1) C z) := x_to_at f66_20 C s n z
theorem f66_21 : x_fetch q_k66 21 = x_ldi 22 2 := rfl
theorem t66_21 (C : xF) (s n : Nat) (z : xS) : x_to q_k66 C s (n + 1) 21 z = x_nx q_k66 C s n ((x_ldi 22 2) C z) := x_to_at f66_21 C s n z
theorem f66_22 : x_fetch q_k66 22 = x_lda 23 0 := rfl
theorem t66_22 (C : xF) (s n : Nat) (z : xS) : x_to q_k66 C s (n + 1) 22 z = x_nx q_k66 C s n ((x_lda 23 0) C z) := x_to_at f66_22 C s n z
theorem f66_23 : x_fetch q_k66 23 = x_gf 26 2 0 := rfl
theorem t66_23 (C : xF) (s n : Nat) (z : xS) : x_to q_k66 C s (n + 1) 23 z = x_nx q_k66 C s n ((x_gf 26 2 0) C z) := x_to_at f66_23 C s n z
theorem f66_26 : x_fetch q_k66 26 = x_cv 29 50 4 5 := rfl
theorem t66_26 (C : xF) (s n : Nat) (z : xS) : x_to q_k66 C s (n + 1) 26 z = x_nx q_k66 C s n ((x_cv 29 50 4 5) C z) := x_to_at f66_26 C s n z
theorem f66_29 : x_fetch q_k66 29 = x_ri (.boolean) := rfl
theorem t66_29 (C : xF) (s n : Nat) (z : xS) : x_to q_k66 C s (n + 1) 29 z = x_nx q_k66 C s n ((x_ri (.boolean)) C z) := x_to_at f66_29 C s n z
theorem f66_30 : x_fetch q_k66 30 = x_lda 31 0 := rfl
theorem t66_30 (C : xF) (s n : Nat) (z : xS) : x_to q_k66 C s (n + 1) 30 z = x_nx q_k66 C s n ((x_lda 31 0) C z) := x_to_at f66_30 C s n z
theorem f66_31 : x_fetch q_k66 31 = x_gf 34 2 1 := rfl
theorem t66_31 (C : xF) (s n : Nat) (z : xS) : x_to q_k66 C s (n + 1) 31 z = x_nx q_k66 C s n ((x_gf 34 2 1) C z) := x_to_at f66_31 C s n z
theorem f66_34 : x_fetch q_k66 34 = x_ldi 35 1 := rfl
theorem t66_34 (C : xF) (s n : Nat) (z : xS) : x_to q_k66 C s (n + 1) 34 z = x_nx q_k66 C s n ((x_ldi 35 1) C z) := x_to_at f66_34 C s n z
theorem f66_35 : x_fetch q_k66 35 = x_lda 36 0 := rfl
theorem t66_35 (C : xF) (s n : Nat) (z : xS) : x_to q_k66 C s (n + 1) 35 z = x_nx q_k66 C s n ((x_lda 36 0) C z) := x_to_at f66_35 C s n z
theorem f66_36 : x_fetch q_k66 36 = x_gf 39 2 6 := rfl
theorem t66_36 (C : xF) (s n : Nat) (z : xS) : x_to q_k66 C s (n + 1) 36 z = x_nx q_k66 C s n ((x_gf 39 2 6) C z) := x_to_at f66_36 C s n z
theorem f66_39 : x_fetch q_k66 39 = x_lda 40 0 := rfl
theorem t66_39 (C : xF) (s n : Nat) (z : xS) : x_to q_k66 C s (n + 1) 39 z = x_nx q_k66 C s n ((x_lda 40 0) C z) := x_to_at f66_39 C s n z
theorem f66_40 : x_fetch q_k66 40 = x_gf 43 2 0 := rfl
theorem t66_40 (C : xF) (s n : Nat) (z : xS) : x_to q_k66 C s (n + 1) 40 z = x_nx q_k66 C s n ((x_gf 43 2 0) C z) := x_to_at f66_40 C s n z
theorem f66_43 : x_fetch q_k66 43 = x_cv 46 50 4 5 := rfl
theorem t66_43 (C : xF) (s n : Nat) (z : xS) : x_to q_k66 C s (n + 1) 43 z = x_nx q_k66 C s n ((x_cv 46 50 4 5) C z) := x_to_at f66_43 C s n z
theorem f66_46 : x_fetch q_k66 46 = x_st (x_ifeq 108 49) := rfl
theorem t66_46 (C : xF) (s n : Nat) (z : xS) : x_to q_k66 C s (n + 1) 46 z = x_nx q_k66 C s n ((x_st (x_ifeq 108 49)) C z) := x_to_at f66_46 C s n z
theorem f66_49 : x_fetch q_k66 49 = x_lda 50 0 := rfl
theorem t66_49 (C : xF) (s n : Nat) (z : xS) : x_to q_k66 C s (n + 1) 49 z = x_nx q_k66 C s n ((x_lda 50 0) C z) := x_to_at f66_49 C s n z
theorem f66_50 : x_fetch q_k66 50 = x_gf 53 2 1 := rfl
theorem t66_50 (C : xF) (s n : Nat) (z : xS) : x_to q_k66 C s (n + 1) 50 z = x_nx q_k66 C s n ((x_gf 53 2 1) C z) := x_to_at f66_50 C s n z
theorem f66_53 : x_fetch q_k66 53 = x_lda 54 0 := rfl
theorem t66_53 (C : xF) (s n : Nat) (z : xS) : x_to q_k66 C s (n + 1) 53 z = x_nx q_k66 C s n ((x_lda 54 0) C z) := x_to_at f66_53 C s n z
theorem f66_54 : x_fetch q_k66 54 = x_gf 57 2 7 := rfl
theorem t66_54 (C : xF) (s n : Nat) (z : xS) : x_to q_k66 C s (n + 1) 54 z = x_nx q_k66 C s n ((x_gf 57 2 7) C z) := x_to_at f66_54 C s n z
theorem f66_57 : x_fetch q_k66 57 = x_lda 58 0 := rfl
theorem t66_57 (C : xF) (s n : Nat) (z : xS) : x_to q_k66 C s (n + 1) 57 z = x_nx q_k66 C s n ((x_lda 58 0) C z) := x_to_at f66_57 C s n z
theorem f66_58 : x_fetch q_k66 58 = x_gf 61 2 1 := rfl
theorem t66_58 (C : xF) (s n : Nat) (z : xS) : x_to q_k66 C s (n + 1) 58 z = x_nx q_k66 C s n ((x_gf 61 2 1) C z) := x_to_at f66_58 C s n z
theorem f66_61 : x_fetch q_k66 61 = x_lda 62 0 := rfl
theorem t66_61 (C : xF) (s n : Nat) (z : xS) : x_to q_k66 C s (n + 1) 61 z = x_nx q_k66 C s n ((x_lda 62 0) C z) := x_to_at f66_61 C s n z
theorem f66_62 : x_fetch q_k66 62 = x_gf 65 2 7 := rfl
theorem t66_62 (C : xF) (s n : Nat) (z : xS) : x_to q_k66 C s (n + 1) 62 z = x_nx q_k66 C s n ((x_gf 65 2 7) C z) := x_to_at f66_62 C s n z
theorem f66_65 : x_fetch q_k66 65 = x_cv 68 43 2 5 := rfl
theorem t66_65 (C : xF) (s n : Nat) (z : xS) : x_to q_k66 C s (n + 1) 65 z = x_nx q_k66 C s n ((x_cv 68 43 2 5) C z) := x_to_at f66_65 C s n z
theorem f66_68 : x_fetch q_k66 68 = x_lda 69 0 := rfl
theorem t66_68 (C : xF) (s n : Nat) (z : xS) : x_to q_k66 C s (n + 1) 68 z = x_nx q_k66 C s n ((x_lda 69 0) C z) := x_to_at f66_68 C s n z
theorem f66_69 : x_fetch q_k66 69 = x_gf 72 2 0 := rfl
theorem t66_69 (C : xF) (s n : Nat) (z : xS) : x_to q_k66 C s (n + 1) 69 z = x_nx q_k66 C s n ((x_gf 72 2 0) C z) := x_to_at f66_69 C s n z
theorem f66_72 : x_fetch q_k66 72 = x_cv 75 50 4 5 := rfl
theorem t66_72 (C : xF) (s n : Nat) (z : xS) : x_to q_k66 C s (n + 1) 72 z = x_nx q_k66 C s n ((x_cv 75 50 4 5) C z) := x_to_at f66_72 C s n z
theorem f66_75 : x_fetch q_k66 75 = x_st (x_ifeq 108 78) := rfl
theorem t66_75 (C : xF) (s n : Nat) (z : xS) : x_to q_k66 C s (n + 1) 75 z = x_nx q_k66 C s n ((x_st (x_ifeq 108 78)) C z) := x_to_at f66_75 C s n z
theorem f66_78 : x_fetch q_k66 78 = x_lda 79 0 := rfl
theorem t66_78 (C : xF) (s n : Nat) (z : xS) : x_to q_k66 C s (n + 1) 78 z = x_nx q_k66 C s n ((x_lda 79 0) C z) := x_to_at f66_78 C s n z
theorem f66_79 : x_fetch q_k66 79 = x_gf 82 2 1 := rfl
theorem t66_79 (C : xF) (s n : Nat) (z : xS) : x_to q_k66 C s (n + 1) 79 z = x_nx q_k66 C s n ((x_gf 82 2 1) C z) := x_to_at f66_79 C s n z
theorem f66_82 : x_fetch q_k66 82 = x_lda 83 0 := rfl
theorem t66_82 (C : xF) (s n : Nat) (z : xS) : x_to q_k66 C s (n + 1) 82 z = x_nx q_k66 C s n ((x_lda 83 0) C z) := x_to_at f66_82 C s n z
theorem f66_83 : x_fetch q_k66 83 = x_gf 86 2 1 := rfl
theorem t66_83 (C : xF) (s n : Nat) (z : xS) : x_to q_k66 C s (n + 1) 83 z = x_nx q_k66 C s n ((x_gf 86 2 1) C z) := x_to_at f66_83 C s n z
theorem f66_86 : x_fetch q_k66 86 = x_lda 87 0 := rfl
theorem t66_86 (C : xF) (s n : Nat) (z : xS) : x_to q_k66 C s (n + 1) 86 z = x_nx q_k66 C s n ((x_lda 87 0) C z) := x_to_at f66_86 C s n z
theorem f66_87 : x_fetch q_k66 87 = x_gf 90 2 6 := rfl
theorem t66_87 (C : xF) (s n : Nat) (z : xS) : x_to q_k66 C s (n + 1) 87 z = x_nx q_k66 C s n ((x_gf 90 2 6) C z) := x_to_at f66_87 C s n z
theorem f66_90 : x_fetch q_k66 90 = x_cv 93 43 2 5 := rfl
theorem t66_90 (C : xF) (s n : Nat) (z : xS) : x_to q_k66 C s (n + 1) 90 z = x_nx q_k66 C s n ((x_cv 93 43 2 5) C z) := x_to_at f66_90 C s n z
theorem f66_93 : x_fetch q_k66 93 = x_ldi 94 2 := rfl
theorem t66_93 (C : xF) (s n : Nat) (z : xS) : x_to q_k66 C s (n + 1) 93 z = x_nx q_k66 C s n ((x_ldi 94 2) C z) := x_to_at f66_93 C s n z
theorem f66_94 : x_fetch q_k66 94 = x_lda 95 0 := rfl
theorem t66_94 (C : xF) (s n : Nat) (z : xS) : x_to q_k66 C s (n + 1) 94 z = x_nx q_k66 C s n ((x_lda 95 0) C z) := x_to_at f66_94 C s n z
theorem f66_95 : x_fetch q_k66 95 = x_gf 98 2 0 := rfl
theorem t66_95 (C : xF) (s n : Nat) (z : xS) : x_to q_k66 C s (n + 1) 95 z = x_nx q_k66 C s n ((x_gf 98 2 0) C z) := x_to_at f66_95 C s n z
theorem f66_98 : x_fetch q_k66 98 = x_cv 101 50 4 5 := rfl
theorem t66_98 (C : xF) (s n : Nat) (z : xS) : x_to q_k66 C s (n + 1) 98 z = x_nx q_k66 C s n ((x_cv 101 50 4 5) C z) := x_to_at f66_98 C s n z
theorem f66_101 : x_fetch q_k66 101 = x_st (x_ifeq 108 104) := rfl
theorem t66_101 (C : xF) (s n : Nat) (z : xS) : x_to q_k66 C s (n + 1) 101 z = x_nx q_k66 C s n ((x_st (x_ifeq 108 104)) C z) := x_to_at f66_101 C s n z
theorem f66_104 : x_fetch q_k66 104 = x_st (x_push 105 (.int (1))) := rfl
theorem t66_104 (C : xF) (s n : Nat) (z : xS) : x_to q_k66 C s (n + 1) 104 z = x_nx q_k66 C s n ((x_st (x_push 105 (.int (1)))) C z) := x_to_at f66_104 C s n z
theorem f66_105 : x_fetch q_k66 105 = x_st (x_goto 109) := rfl
theorem t66_105 (C : xF) (s n : Nat) (z : xS) : x_to q_k66 C s (n + 1) 105 z = x_nx q_k66 C s n ((x_st (x_goto 109)) C z) := x_to_at f66_105 C s n z
theorem f66_108 : x_fetch q_k66 108 = x_st (x_push 109 (.int (0))) := rfl
theorem t66_108 (C : xF) (s n : Nat) (z : xS) : x_to q_k66 C s (n + 1) 108 z = x_nx q_k66 C s n ((x_st (x_push 109 (.int (0)))) C z) := x_to_at f66_108 C s n z
theorem f66_109 : x_fetch q_k66 109 = x_ri (.boolean) := rfl
theorem t66_109 (C : xF) (s n : Nat) (z : xS) : x_to q_k66 C s (n + 1) 109 z = x_nx q_k66 C s n ((x_ri (.boolean)) C z) := x_to_at f66_109 C s n z
abbrev dO (one other f1 f2 pl fi : Int) : xC := .inr (2, [.ref 15, .ref 19, .int (iZ one), .int (iZ other), .int (iZ f1), .int (iZ f2), .int (iZ pl), .int (iZ fi)])
def atP (P : List Int) (pl fi : Int) (fr to_ : Nat) : List Int := if pl < fr ∨ (to_ : Int) ≤ pl then seg P fr to_ else seg P fr pl ++ (tm P fi.toNat ++ seg P (pl + (tm P pl.toNat).length) to_)
def LB (w : Nat → xC) (C : List (Int × List Int)) : Prop := ∃ (S E B : List Int) (o : Int), fo w 12 S E B C.length (flt C).length o ∧ S.length = 80 ∧ E.length = 7 ∧ B.length = 7 ∧ FW C S E B ∧ gV C ∧ (flt C).length ≤ 40 ∧ C.length ≤ 6
theorem LB.ff {w : Nat → xC} {C : List (Int × List Int)} (h : LB w C) : FF w := by
  obtain ⟨S, E, B, o, h1, h2, h3, h4, _⟩ := h
  exact ⟨S, E, B, _, _, _, h1, h2, h3, h4⟩
theorem tm_len_le {P : List Int} {i : Nat} (hi : i ≤ P.length) : i + (tm P i).length ≤ P.length := by
  obtain ⟨b, hb⟩ := tk_pre (P.drop i) 1
  have := congrArg List.length hb
  rw [List.length_append, List.length_drop] at this
  unfold tm
  omega
theorem atP_mem {P : List Int} {pl fi : Int} {fr to_ : Nat} : ∀ s ∈ atP P pl fi fr to_, s ∈ P := by
  intro s hs
  unfold atP at hs
  split at hs
  · exact seg_mem s hs
  · rcases List.mem_append.mp hs with hs | hs
    · exact seg_mem s hs
    · rcases List.mem_append.mp hs with hs | hs
      · exact tm_mem hs
      · exact seg_mem s hs
theorem GB.mvD {w w' : Nat → xC} {P Sy Ee Ro : List Int} {l : Int} {fd rk : Nat → Nat} {K : Nat} (h : GB w P Sy Ee Ro l fd rk K) (f : Fr ksD w w') : GB w' P Sy Ee Ro l fd rk K := by
  obtain ⟨h1, h2, h3, h4, h5, h6⟩ := h
  exact ⟨(f 17 (by decide)).trans h1, (f 18 (by decide)).trans h2, h3, h4, (f 19 (by decide)).trans h5, h6⟩
section CW
variable {N : Nat} {l : Int} {P Sy Ee Ro : List Int} {fd rk : Nat → Nat} {K : Nat} {one other f1 f2 pl fi : Int}
set_option maxHeartbeats 1000000 in
theorem m66 (d : Nat) (hN : 53 ≤ N) {to_ : Nat} (hto : to_ ≤ P.length) (fr : Nat) (hft : fr ≤ to_) (pr : -1 ≤ pl ∧ pl < 100) (hpl : (fr : Int) ≤ pl → pl < to_ → ∃ p f : Nat, pl = p ∧ fi = f ∧ f < P.length ∧ p + (tm P p).length ≤ to_) {C : List (Int × List Int)} {b : Int} {t : List Int} {w : Nat → xC} (hd : w 11 = dO one other f1 f2 pl fi) (hL : LU w C b t) (hG : GS l w) (hB : GB w P Sy Ee Ro l fd rk K) :
    (t.length + (uV P fd K (atP P pl fi fr to_)).length ≤ 40 → ∃ w', Fr ksC w w' ∧ LU w' C b (t ++ uV P fd K (atP P pl fi fr to_)) ∧ GS l w' ∧ Xc (d + 4) 66 [.ref 14, .int (iZ (fr : Int)), .int (iZ (to_ : Int))] (hp w N) (some (.int (iZ 1)), hp w' N)) ∧
    (40 < t.length + (uV P fd K (atP P pl fi fr to_)).length → ∃ w', Fr ksC w w' ∧ FF w' ∧ GS l w' ∧ Xc (d + 4) 66 [.ref 14, .int (iZ (fr : Int)), .int (iZ (to_ : Int))] (hp w N) (some (.int (iZ 0)), hp w' N)) := by
  obtain ⟨g1, g2, g3, g4, g5, g6, g7, hV, hM, g10, g11⟩ := id hB
  obtain ⟨wt0, Os0, gg0, gga, ggb⟩ := id hG
  have v1 := hV.1
  have v2 := hV.2.1
  have fk : ∀ w', Fr ksC w w' → Fr ksD w w' := fun w' h => h.sub (by decide)
  have kt : (to_ : Int) ≤ 80 := by omega
  have kf : (fr : Int) ≤ 80 := by omega
  have kt0 : 0 ≤ (to_ : Int) := by omega
  have kf0 : 0 ≤ (fr : Int) := by omega
  have pr0 := pr.1
  have pr1 := pr.2
  have hc : c1 (lv_args 0 [.ref 14, .int (iZ (fr : Int)), .int (iZ (to_ : Int))]) := by simp [c1, lv_args, Value.category]
  have l0 : x_lk (lv_args 0 [.ref 14, .int (iZ (fr : Int)), .int (iZ (to_ : Int))]) 0 = some (.ref 14) := rfl
  have l1 : x_lk (lv_args 0 [.ref 14, .int (iZ (fr : Int)), .int (iZ (to_ : Int))]) 1 = some (.int (iZ (fr : Int))) := rfl
  have l2 : x_lk (lv_args 0 [.ref 14, .int (iZ (fr : Int)), .int (iZ (to_ : Int))]) 2 = some (.int (iZ (to_ : Int))) := rfl
  have mk : ∀ {r : Option Value} {w' : Nat → xC}, Fr ksC w w' → FF w' → GS l w' → Gx q_k66 (d + 3) 0 ((lv_args 0 [.ref 14, .int (iZ (fr : Int)), .int (iZ (to_ : Int))]), [], hp w N) (r, hp w' N) → Xc (d + 4) 66 [.ref 14, .int (iZ (fr : Int)), .int (iZ (to_ : Int))] (hp w N) (r, hp w' N) := fun f a b g => Xc.of rfl (by simp [lg_sl, Value.category]) g (sz_le (fk _ f) hL.ff a hG b)
  generalize lv_args 0 [.ref 14, .int (iZ (fr : Int)), .int (iZ (to_ : Int))] = lv at hc l0 l1 l2 mk
  by_cases hcase : pl < fr ∨ (to_ : Int) ≤ pl
  · have ea : atP P pl fi fr to_ = seg P fr to_ := if_pos hcase
    rw [ea]
    have A := m50 (P := P) (fd := fd) (K := K) d hN hto fr hft hL hG hB
    refine ⟨fun h => ?_, fun h => ?_⟩
    · obtain ⟨w', i1, i2, i3, i4⟩ := A.1 h
      refine ⟨w', i1, i2, i3, mk i1 i2.ff i3 (Gx.fin 60 i4 (fun X mm => ?_))⟩
      by_cases c1_ : pl < fr
      · simp (disch := first | (refine c1_id ?_; assumption) | (refine c1_st rfl ?_; repeat (first | assumption | refine c1_st rfl ?_)) | omega) [nx_l, nx_r, nx_n, x_st, x_push, x_bin, x_div, x_un, x_dup, x_pop, x_dup2, x_goto, x_ifeq, x_ifne, x_iflt, x_ifge, x_ifgt, x_ifle, x_iceq, x_icne, x_iclt, x_icge, x_icgt, x_icle, x_ifnull, x_ifnonnull, x_ldi, x_lda, x_sti, x_sta, x_iinc, x_gf, x_pf, x_ald, x_ast, x_aln, x_len, x_cl_, x_cv, x_cs, x_rc, x_r0, x_isT, x_oi, x_rv, x_ri, x_ra, Value.category, t66_0, t66_1, t66_4, t66_5, t66_8, t66_9, t66_12, t66_13, t66_16, t66_17, t66_20, t66_21, t66_22, t66_23, t66_26, t66_29, t66_30, t66_31, t66_34, t66_35, t66_36, t66_39, t66_40, t66_43, t66_46, t66_49, t66_50, t66_53, t66_54, t66_57, t66_58, t66_61, t66_62, t66_65, t66_68, t66_69, t66_72, t66_75, t66_78, t66_79, t66_82, t66_83, t66_86, t66_87, t66_90, t66_93, t66_94, t66_95, t66_98, t66_101, t66_104, t66_105, t66_108, t66_109, lk_s, hp_get, hp_set, uH_at, uH_ne, uH_upd, uH_swap, iZ_add, iZ_sub, iZ_mul, iZ_neg, iZ_lt, iZ_le, iZ_eq, iZ_div, iZ_of, ix_Z, gZ_map, gZ_mapI, gZ_map', le_0, le_s, sZ_map, sZ_len, bZ_0, bZ_inj, bZ_t, bZ_f, nr_i, nr_0, nr_1, nr_b, ft_i, ft_b, ft_0, ft_1, zl_0, zl_1, l0, l1, l2, hd, gg0, c1_, mm, dO, gO, -List.filter_filter, -List.getElem?_map, -List.getD_eq_getElem?_getD]
      · have c2_ : ¬ pl < to_ := by omega
        simp (disch := first | (refine c1_id ?_; assumption) | (refine c1_st rfl ?_; repeat (first | assumption | refine c1_st rfl ?_)) | omega) [nx_l, nx_r, nx_n, x_st, x_push, x_bin, x_div, x_un, x_dup, x_pop, x_dup2, x_goto, x_ifeq, x_ifne, x_iflt, x_ifge, x_ifgt, x_ifle, x_iceq, x_icne, x_iclt, x_icge, x_icgt, x_icle, x_ifnull, x_ifnonnull, x_ldi, x_lda, x_sti, x_sta, x_iinc, x_gf, x_pf, x_ald, x_ast, x_aln, x_len, x_cl_, x_cv, x_cs, x_rc, x_r0, x_isT, x_oi, x_rv, x_ri, x_ra, Value.category, t66_0, t66_1, t66_4, t66_5, t66_8, t66_9, t66_12, t66_13, t66_16, t66_17, t66_20, t66_21, t66_22, t66_23, t66_26, t66_29, t66_30, t66_31, t66_34, t66_35, t66_36, t66_39, t66_40, t66_43, t66_46, t66_49, t66_50, t66_53, t66_54, t66_57, t66_58, t66_61, t66_62, t66_65, t66_68, t66_69, t66_72, t66_75, t66_78, t66_79, t66_82, t66_83, t66_86, t66_87, t66_90, t66_93, t66_94, t66_95, t66_98, t66_101, t66_104, t66_105, t66_108, t66_109, lk_s, hp_get, hp_set, uH_at, uH_ne, uH_upd, uH_swap, iZ_add, iZ_sub, iZ_mul, iZ_neg, iZ_lt, iZ_le, iZ_eq, iZ_div, iZ_of, ix_Z, gZ_map, gZ_mapI, gZ_map', le_0, le_s, sZ_map, sZ_len, bZ_0, bZ_inj, bZ_t, bZ_f, nr_i, nr_0, nr_1, nr_b, ft_i, ft_b, ft_0, ft_1, zl_0, zl_1, l0, l1, l2, hd, gg0, c1_, c2_, mm, dO, gO, -List.filter_filter, -List.getElem?_map, -List.getD_eq_getElem?_getD]
    · obtain ⟨w', i1, i2, i3, i4⟩ := A.2 h
      refine ⟨w', i1, i2, i3, mk i1 i2 i3 (Gx.fin 60 i4 (fun X mm => ?_))⟩
      by_cases c1_ : pl < fr
      · simp (disch := first | (refine c1_id ?_; assumption) | (refine c1_st rfl ?_; repeat (first | assumption | refine c1_st rfl ?_)) | omega) [nx_l, nx_r, nx_n, x_st, x_push, x_bin, x_div, x_un, x_dup, x_pop, x_dup2, x_goto, x_ifeq, x_ifne, x_iflt, x_ifge, x_ifgt, x_ifle, x_iceq, x_icne, x_iclt, x_icge, x_icgt, x_icle, x_ifnull, x_ifnonnull, x_ldi, x_lda, x_sti, x_sta, x_iinc, x_gf, x_pf, x_ald, x_ast, x_aln, x_len, x_cl_, x_cv, x_cs, x_rc, x_r0, x_isT, x_oi, x_rv, x_ri, x_ra, Value.category, t66_0, t66_1, t66_4, t66_5, t66_8, t66_9, t66_12, t66_13, t66_16, t66_17, t66_20, t66_21, t66_22, t66_23, t66_26, t66_29, t66_30, t66_31, t66_34, t66_35, t66_36, t66_39, t66_40, t66_43, t66_46, t66_49, t66_50, t66_53, t66_54, t66_57, t66_58, t66_61, t66_62, t66_65, t66_68, t66_69, t66_72, t66_75, t66_78, t66_79, t66_82, t66_83, t66_86, t66_87, t66_90, t66_93, t66_94, t66_95, t66_98, t66_101, t66_104, t66_105, t66_108, t66_109, lk_s, hp_get, hp_set, uH_at, uH_ne, uH_upd, uH_swap, iZ_add, iZ_sub, iZ_mul, iZ_neg, iZ_lt, iZ_le, iZ_eq, iZ_div, iZ_of, ix_Z, gZ_map, gZ_mapI, gZ_map', le_0, le_s, sZ_map, sZ_len, bZ_0, bZ_inj, bZ_t, bZ_f, nr_i, nr_0, nr_1, nr_b, ft_i, ft_b, ft_0, ft_1, zl_0, zl_1, l0, l1, l2, hd, gg0, c1_, mm, dO, gO, -List.filter_filter, -List.getElem?_map, -List.getD_eq_getElem?_getD]
      · have c2_ : ¬ pl < to_ := by omega
        simp (disch := first | (refine c1_id ?_; assumption) | (refine c1_st rfl ?_; repeat (first | assumption | refine c1_st rfl ?_)) | omega) [nx_l, nx_r, nx_n, x_st, x_push, x_bin, x_div, x_un, x_dup, x_pop, x_dup2, x_goto, x_ifeq, x_ifne, x_iflt, x_ifge, x_ifgt, x_ifle, x_iceq, x_icne, x_iclt, x_icge, x_icgt, x_icle, x_ifnull, x_ifnonnull, x_ldi, x_lda, x_sti, x_sta, x_iinc, x_gf, x_pf, x_ald, x_ast, x_aln, x_len, x_cl_, x_cv, x_cs, x_rc, x_r0, x_isT, x_oi, x_rv, x_ri, x_ra, Value.category, t66_0, t66_1, t66_4, t66_5, t66_8, t66_9, t66_12, t66_13, t66_16, t66_17, t66_20, t66_21, t66_22, t66_23, t66_26, t66_29, t66_30, t66_31, t66_34, t66_35, t66_36, t66_39, t66_40, t66_43, t66_46, t66_49, t66_50, t66_53, t66_54, t66_57, t66_58, t66_61, t66_62, t66_65, t66_68, t66_69, t66_72, t66_75, t66_78, t66_79, t66_82, t66_83, t66_86, t66_87, t66_90, t66_93, t66_94, t66_95, t66_98, t66_101, t66_104, t66_105, t66_108, t66_109, lk_s, hp_get, hp_set, uH_at, uH_ne, uH_upd, uH_swap, iZ_add, iZ_sub, iZ_mul, iZ_neg, iZ_lt, iZ_le, iZ_eq, iZ_div, iZ_of, ix_Z, gZ_map, gZ_mapI, gZ_map', le_0, le_s, sZ_map, sZ_len, bZ_0, bZ_inj, bZ_t, bZ_f, nr_i, nr_0, nr_1, nr_b, ft_i, ft_b, ft_0, ft_1, zl_0, zl_1, l0, l1, l2, hd, gg0, c1_, c2_, mm, dO, gO, -List.filter_filter, -List.getElem?_map, -List.getD_eq_getElem?_getD]
  · have ea : atP P pl fi fr to_ = seg P fr pl ++ (tm P fi.toNat ++ seg P (pl + (tm P pl.toNat).length) to_) := if_neg hcase
    rw [ea]
    obtain ⟨p, f, rfl, rfl, hfP, hpt⟩ := hpl (by omega) (by omega)
    have hpP : p < P.length := by omega
    have c1_ : ¬ (p : Int) < (fr : Int) := by omega
    have c2_ : (p : Int) < (to_ : Int) := by omega
    have hfe := tm_len_le (P := P) (i := f) (by omega)
    have A1 := m50 (P := P) (fd := fd) (K := K) (to_ := p) d hN (by omega) fr (by omega) hL hG hB
    have ef : gZ Ee (f : Int) = ((f + (tm P f).length : Nat) : Int) := by
      rw [g4 f (by omega) (by omega)]
      simp
    have ep : gZ Ee (p : Int) = ((p + (tm P p).length : Nat) : Int) := by
      rw [g4 p (by omega) (by omega)]
      simp
    have s2 : seg P (f : Int) ((f + (tm P f).length : Nat) : Int) = tm P f := by
      have := seg_tm (P := P) (i := (f : Int)) (by omega)
      rw [show ((f + (tm P f).length : Nat) : Int) = (f : Int) + (tm P f).length by omega]
      exact this
    rw [show ((f : Int)).toNat = f by omega, show ((p : Int)).toNat = p by omega, show (p : Int) + (tm P p).length = ((p + (tm P p).length : Nat) : Int) by omega, ← s2]
    have hf80 : (f : Int) < 80 := by omega
    have hp80 : (p : Int) < 80 := by omega
    obtain ⟨fe, hfe'⟩ : ∃ fe, fe = f + (tm P f).length := ⟨_, rfl⟩
    obtain ⟨pe, hpe'⟩ : ∃ pe, pe = p + (tm P p).length := ⟨_, rfl⟩
    rw [← hfe'] at ef hfe ⊢
    rw [← hpe'] at ep hpt ⊢
    rw [uV_app, uV_app, List.length_append, List.length_append]
    by_cases f1_ : t.length + (uV P fd K (seg P fr p)).length ≤ 40
    · obtain ⟨w1, i1, i2, i3, i4⟩ := A1.1 f1_
      have hd1 : w1 11 = dO one other f1 f2 p f := (i1 11 (by decide)).trans hd
      have B1 := hB.mv i1
      obtain ⟨wt1, Os1, gg1, gg2, gg3⟩ := id i3
      have Y1 := m43 (d + 2) hN gg1 B1.2.1 g3 (by omega) (by omega) (f : Int) (by omega) (by omega)
      rw [ef] at Y1
      have A2 := m50 (P := P) (fd := fd) (K := K) (to_ := fe) d hN (by omega) f (by omega) i2 i3 B1
      rw [List.length_append] at A2
      by_cases f2_ : t.length + (uV P fd K (seg P fr p)).length + (uV P fd K (seg P f fe)).length ≤ 40
      · obtain ⟨w2, k1, k2, k3, k4⟩ := A2.1 f2_
        have hd2 : w2 11 = dO one other f1 f2 p f := (k1 11 (by decide)).trans hd1
        have B2 := B1.mv k1
        obtain ⟨wt2, Os2, hh1, hh2, hh3⟩ := id k3
        have Y2 := m43 (d + 2) hN hh1 B2.2.1 g3 (by omega) (by omega) (p : Int) (by omega) (by omega)
        rw [ep] at Y2
        have A3 := m50 (P := P) (fd := fd) (K := K) (to_ := to_) d hN hto pe hpt k2 k3 B2
        rw [List.length_append, List.length_append, List.append_assoc, List.append_assoc] at A3
        refine ⟨fun h => ?_, fun h => ?_⟩
        · obtain ⟨w3, n1, n2, n3, n4⟩ := A3.1 (by omega)
          refine ⟨w3, (i1.tr k1).tr n1, n2, n3, mk ((i1.tr k1).tr n1) n2.ff n3 (Gx.fin 90 ((((i4.and Y1).and k4).and Y2).and n4) (fun X mm => ?_))⟩
          obtain ⟨⟨⟨⟨q1, q2⟩, q3⟩, q4⟩, q5⟩ := mm
          simp (disch := first | (refine c1_id ?_; assumption) | (refine c1_st rfl ?_; repeat (first | assumption | refine c1_st rfl ?_)) | omega) [nx_l, nx_r, nx_n, x_st, x_push, x_bin, x_div, x_un, x_dup, x_pop, x_dup2, x_goto, x_ifeq, x_ifne, x_iflt, x_ifge, x_ifgt, x_ifle, x_iceq, x_icne, x_iclt, x_icge, x_icgt, x_icle, x_ifnull, x_ifnonnull, x_ldi, x_lda, x_sti, x_sta, x_iinc, x_gf, x_pf, x_ald, x_ast, x_aln, x_len, x_cl_, x_cv, x_cs, x_rc, x_r0, x_isT, x_oi, x_rv, x_ri, x_ra, Value.category, t66_0, t66_1, t66_4, t66_5, t66_8, t66_9, t66_12, t66_13, t66_16, t66_17, t66_20, t66_21, t66_22, t66_23, t66_26, t66_29, t66_30, t66_31, t66_34, t66_35, t66_36, t66_39, t66_40, t66_43, t66_46, t66_49, t66_50, t66_53, t66_54, t66_57, t66_58, t66_61, t66_62, t66_65, t66_68, t66_69, t66_72, t66_75, t66_78, t66_79, t66_82, t66_83, t66_86, t66_87, t66_90, t66_93, t66_94, t66_95, t66_98, t66_101, t66_104, t66_105, t66_108, t66_109, lk_s, hp_get, hp_set, uH_at, uH_ne, uH_upd, uH_swap, iZ_add, iZ_sub, iZ_mul, iZ_neg, iZ_lt, iZ_le, iZ_eq, iZ_div, iZ_of, ix_Z, gZ_map, gZ_mapI, gZ_map', le_0, le_s, sZ_map, sZ_len, bZ_0, bZ_inj, bZ_t, bZ_f, nr_i, nr_0, nr_1, nr_b, ft_i, ft_b, ft_0, ft_1, zl_0, zl_1, l0, l1, l2, hd, hd1, hd2, gg0, gg1, hh1, c1_, c2_, q1, q2, q3, q4, q5, dO, gO, -List.filter_filter, -List.getElem?_map, -List.getD_eq_getElem?_getD]
        · obtain ⟨w3, n1, n2, n3, n4⟩ := A3.2 (by omega)
          refine ⟨w3, (i1.tr k1).tr n1, n2, n3, mk ((i1.tr k1).tr n1) n2 n3 (Gx.fin 90 ((((i4.and Y1).and k4).and Y2).and n4) (fun X mm => ?_))⟩
          obtain ⟨⟨⟨⟨q1, q2⟩, q3⟩, q4⟩, q5⟩ := mm
          simp (disch := first | (refine c1_id ?_; assumption) | (refine c1_st rfl ?_; repeat (first | assumption | refine c1_st rfl ?_)) | omega) [nx_l, nx_r, nx_n, x_st, x_push, x_bin, x_div, x_un, x_dup, x_pop, x_dup2, x_goto, x_ifeq, x_ifne, x_iflt, x_ifge, x_ifgt, x_ifle, x_iceq, x_icne, x_iclt, x_icge, x_icgt, x_icle, x_ifnull, x_ifnonnull, x_ldi, x_lda, x_sti, x_sta, x_iinc, x_gf, x_pf, x_ald, x_ast, x_aln, x_len, x_cl_, x_cv, x_cs, x_rc, x_r0, x_isT, x_oi, x_rv, x_ri, x_ra, Value.category, t66_0, t66_1, t66_4, t66_5, t66_8, t66_9, t66_12, t66_13, t66_16, t66_17, t66_20, t66_21, t66_22, t66_23, t66_26, t66_29, t66_30, t66_31, t66_34, t66_35, t66_36, t66_39, t66_40, t66_43, t66_46, t66_49, t66_50, t66_53, t66_54, t66_57, t66_58, t66_61, t66_62, t66_65, t66_68, t66_69, t66_72, t66_75, t66_78, t66_79, t66_82, t66_83, t66_86, t66_87, t66_90, t66_93, t66_94, t66_95, t66_98, t66_101, t66_104, t66_105, t66_108, t66_109, lk_s, hp_get, hp_set, uH_at, uH_ne, uH_upd, uH_swap, iZ_add, iZ_sub, iZ_mul, iZ_neg, iZ_lt, iZ_le, iZ_eq, iZ_div, iZ_of, ix_Z, gZ_map, gZ_mapI, gZ_map', le_0, le_s, sZ_map, sZ_len, bZ_0, bZ_inj, bZ_t, bZ_f, nr_i, nr_0, nr_1, nr_b, ft_i, ft_b, ft_0, ft_1, zl_0, zl_1, l0, l1, l2, hd, hd1, hd2, gg0, gg1, hh1, c1_, c2_, q1, q2, q3, q4, q5, dO, gO, -List.filter_filter, -List.getElem?_map, -List.getD_eq_getElem?_getD]
      · obtain ⟨w2, k1, k2, k3, k4⟩ := A2.2 (by omega)
        refine ⟨fun h => by omega, fun _ => ⟨w2, i1.tr k1, k2, k3, mk (i1.tr k1) k2 k3 (Gx.fin 90 ((i4.and Y1).and k4) (fun X mm => ?_))⟩⟩
        obtain ⟨⟨q1, q2⟩, q3⟩ := mm
        simp (disch := first | (refine c1_id ?_; assumption) | (refine c1_st rfl ?_; repeat (first | assumption | refine c1_st rfl ?_)) | omega) [nx_l, nx_r, nx_n, x_st, x_push, x_bin, x_div, x_un, x_dup, x_pop, x_dup2, x_goto, x_ifeq, x_ifne, x_iflt, x_ifge, x_ifgt, x_ifle, x_iceq, x_icne, x_iclt, x_icge, x_icgt, x_icle, x_ifnull, x_ifnonnull, x_ldi, x_lda, x_sti, x_sta, x_iinc, x_gf, x_pf, x_ald, x_ast, x_aln, x_len, x_cl_, x_cv, x_cs, x_rc, x_r0, x_isT, x_oi, x_rv, x_ri, x_ra, Value.category, t66_0, t66_1, t66_4, t66_5, t66_8, t66_9, t66_12, t66_13, t66_16, t66_17, t66_20, t66_21, t66_22, t66_23, t66_26, t66_29, t66_30, t66_31, t66_34, t66_35, t66_36, t66_39, t66_40, t66_43, t66_46, t66_49, t66_50, t66_53, t66_54, t66_57, t66_58, t66_61, t66_62, t66_65, t66_68, t66_69, t66_72, t66_75, t66_78, t66_79, t66_82, t66_83, t66_86, t66_87, t66_90, t66_93, t66_94, t66_95, t66_98, t66_101, t66_104, t66_105, t66_108, t66_109, lk_s, hp_get, hp_set, uH_at, uH_ne, uH_upd, uH_swap, iZ_add, iZ_sub, iZ_mul, iZ_neg, iZ_lt, iZ_le, iZ_eq, iZ_div, iZ_of, ix_Z, gZ_map, gZ_mapI, gZ_map', le_0, le_s, sZ_map, sZ_len, bZ_0, bZ_inj, bZ_t, bZ_f, nr_i, nr_0, nr_1, nr_b, ft_i, ft_b, ft_0, ft_1, zl_0, zl_1, l0, l1, l2, hd, hd1, gg0, gg1, c1_, c2_, q1, q2, q3, dO, gO, -List.filter_filter, -List.getElem?_map, -List.getD_eq_getElem?_getD]
    · obtain ⟨w1, i1, i2, i3, i4⟩ := A1.2 (by omega)
      refine ⟨fun h => by omega, fun _ => ⟨w1, i1, i2, i3, mk i1 i2 i3 (Gx.fin 90 i4 (fun X mm => ?_))⟩⟩
      simp (disch := first | (refine c1_id ?_; assumption) | (refine c1_st rfl ?_; repeat (first | assumption | refine c1_st rfl ?_)) | omega) [nx_l, nx_r, nx_n, x_st, x_push, x_bin, x_div, x_un, x_dup, x_pop, x_dup2, x_goto, x_ifeq, x_ifne, x_iflt, x_ifge, x_ifgt, x_ifle, x_iceq, x_icne, x_iclt, x_icge, x_icgt, x_icle, x_ifnull, x_ifnonnull, x_ldi, x_lda, x_sti, x_sta, x_iinc, x_gf, x_pf, x_ald, x_ast, x_aln, x_len, x_cl_, x_cv, x_cs, x_rc, x_r0, x_isT, x_oi, x_rv, x_ri, x_ra, Value.category, t66_0, t66_1, t66_4, t66_5, t66_8, t66_9, t66_12, t66_13, t66_16, t66_17, t66_20, t66_21, t66_22, t66_23, t66_26, t66_29, t66_30, t66_31, t66_34, t66_35, t66_36, t66_39, t66_40, t66_43, t66_46, t66_49, t66_50, t66_53, t66_54, t66_57, t66_58, t66_61, t66_62, t66_65, t66_68, t66_69, t66_72, t66_75, t66_78, t66_79, t66_82, t66_83, t66_86, t66_87, t66_90, t66_93, t66_94, t66_95, t66_98, t66_101, t66_104, t66_105, t66_108, t66_109, lk_s, hp_get, hp_set, uH_at, uH_ne, uH_upd, uH_swap, iZ_add, iZ_sub, iZ_mul, iZ_neg, iZ_lt, iZ_le, iZ_eq, iZ_div, iZ_of, ix_Z, gZ_map, gZ_mapI, gZ_map', le_0, le_s, sZ_map, sZ_len, bZ_0, bZ_inj, bZ_t, bZ_f, nr_i, nr_0, nr_1, nr_b, ft_i, ft_b, ft_0, ft_1, zl_0, zl_1, l0, l1, l2, hd, gg0, c1_, c2_, mm, dO, gO, -List.filter_filter, -List.getElem?_map, -List.getD_eq_getElem?_getD]
end CW
