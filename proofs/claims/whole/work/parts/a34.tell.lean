/-! the class: a term's text is written -/
theorem f90_0 : x_fetch q_k90 0 = x_ldi 1 3 := rfl
theorem t90_0 (C : xF) (s n : Nat) (z : xS) : x_to q_k90 C s (n + 1) 0 z = x_nx q_k90 C s n ((x_ldi 1 3) C z) := x_to_at f90_0 C s n z
theorem f90_1 : x_fetch q_k90 1 = x_st (x_push 3 (.int (40))) := rfl
theorem t90_1 (C : xF) (s n : Nat) (z : xS) : x_to q_k90 C s (n + 1) 1 z = x_nx q_k90 C s n ((x_st (x_push 3 (.int (40)))) C z) := x_to_at f90_1 C s n z
theorem f90_3 : x_fetch q_k90 3 = x_st (x_icge 14 6) := rfl
theorem t90_3 (C : xF) (s n : Nat) (z : xS) : x_to q_k90 C s (n + 1) 3 z = x_nx q_k90 C s n ((x_st (x_icge 14 6)) C z) := x_to_at f90_3 C s n z
theorem f90_6 : x_fetch q_k90 6 = x_ldi 7 2 := rfl
theorem t90_6 (C : xF) (s n : Nat) (z : xS) : x_to q_k90 C s (n + 1) 6 z = x_nx q_k90 C s n ((x_ldi 7 2) C z) := x_to_at f90_6 C s n z
theorem f90_7 : x_fetch q_k90 7 = x_lda 8 1 := rfl
theorem t90_7 (C : xF) (s n : Nat) (z : xS) : x_to q_k90 C s (n + 1) 7 z = x_nx q_k90 C s n ((x_lda 8 1) C z) := x_to_at f90_7 C s n z
theorem f90_8 : x_fetch q_k90 8 = x_gf 11 4 4 := rfl
theorem t90_8 (C : xF) (s n : Nat) (z : xS) : x_to q_k90 C s (n + 1) 8 z = x_nx q_k90 C s n ((x_gf 11 4 4) C z) := x_to_at f90_8 C s n z
theorem f90_11 : x_fetch q_k90 11 = x_st (x_iclt 19 14) := rfl
theorem t90_11 (C : xF) (s n : Nat) (z : xS) : x_to q_k90 C s (n + 1) 11 z = x_nx q_k90 C s n ((x_st (x_iclt 19 14)) C z) := x_to_at f90_11 C s n z
theorem f90_14 : x_fetch q_k90 14 = x_lda 15 1 := rfl
theorem t90_14 (C : xF) (s n : Nat) (z : xS) : x_to q_k90 C s (n + 1) 14 z = x_nx q_k90 C s n ((x_lda 15 1) C z) := x_to_at f90_14 C s n z
theorem f90_15 : x_fetch q_k90 15 = x_gf 18 4 4 := rfl
theorem t90_15 (C : xF) (s n : Nat) (z : xS) : x_to q_k90 C s (n + 1) 15 z = x_nx q_k90 C s n ((x_gf 18 4 4) C z) := x_to_at f90_15 C s n z
theorem f90_18 : x_fetch q_k90 18 = x_ri (.int) := rfl
theorem t90_18 (C : xF) (s n : Nat) (z : xS) : x_to q_k90 C s (n + 1) 18 z = x_nx q_k90 C s n ((x_ri (.int)) C z) := x_to_at f90_18 C s n z
theorem f90_19 : x_fetch q_k90 19 = x_lda 20 1 := rfl
theorem t90_19 (C : xF) (s n : Nat) (z : xS) : x_to q_k90 C s (n + 1) 19 z = x_nx q_k90 C s n ((x_lda 20 1) C z) := x_to_at f90_19 C s n z
theorem f90_20 : x_fetch q_k90 20 = x_gf 23 4 0 := rfl
theorem t90_20 (C : xF) (s n : Nat) (z : xS) : x_to q_k90 C s (n + 1) 20 z = x_nx q_k90 C s n ((x_gf 23 4 0) C z) := x_to_at f90_20 C s n z
theorem f90_23 : x_fetch q_k90 23 = x_ldi 24 2 := rfl
theorem t90_23 (C : xF) (s n : Nat) (z : xS) : x_to q_k90 C s (n + 1) 23 z = x_nx q_k90 C s n ((x_ldi 24 2) C z) := x_to_at f90_23 C s n z
theorem f90_24 : x_fetch q_k90 24 = x_ald 25 0 := rfl
theorem t90_24 (C : xF) (s n : Nat) (z : xS) : x_to q_k90 C s (n + 1) 24 z = x_nx q_k90 C s n ((x_ald 25 0) C z) := x_to_at f90_24 C s n z
theorem f90_25 : x_fetch q_k90 25 = x_sti 27 4 := rfl
theorem t90_25 (C : xF) (s n : Nat) (z : xS) : x_to q_k90 C s (n + 1) 25 z = x_nx q_k90 C s n ((x_sti 27 4) C z) := x_to_at f90_25 C s n z
theorem f90_27 : x_fetch q_k90 27 = x_ldi 29 4 := rfl
theorem t90_27 (C : xF) (s n : Nat) (z : xS) : x_to q_k90 C s (n + 1) 27 z = x_nx q_k90 C s n ((x_ldi 29 4) C z) := x_to_at f90_27 C s n z
theorem f90_29 : x_fetch q_k90 29 = x_cl_ 32 5 1 := rfl
theorem t90_29 (C : xF) (s n : Nat) (z : xS) : x_to q_k90 C s (n + 1) 29 z = x_nx q_k90 C s n ((x_cl_ 32 5 1) C z) := x_to_at f90_29 C s n z
theorem f90_32 : x_fetch q_k90 32 = x_sti 34 5 := rfl
theorem t90_32 (C : xF) (s n : Nat) (z : xS) : x_to q_k90 C s (n + 1) 32 z = x_nx q_k90 C s n ((x_sti 34 5) C z) := x_to_at f90_32 C s n z
theorem f90_34 : x_fetch q_k90 34 = x_ldi 35 2 := rfl
theorem t90_34 (C : xF) (s n : Nat) (z : xS) : x_to q_k90 C s (n + 1) 34 z = x_nx q_k90 C s n ((x_ldi 35 2) C z) := x_to_at f90_34 C s n z
theorem f90_35 : x_fetch q_k90 35 = x_st (x_push 36 (.int (1))) := rfl
theorem t90_35 (C : xF) (s n : Nat) (z : xS) : x_to q_k90 C s (n + 1) 35 z = x_nx q_k90 C s n ((x_st (x_push 36 (.int (1)))) C z) := x_to_at f90_35 C s n z
theorem f90_36 : x_fetch q_k90 36 = x_st (x_bin 37 (fun a b => a + b)) := rfl
theorem t90_36 (C : xF) (s n : Nat) (z : xS) : x_to q_k90 C s (n + 1) 36 z = x_nx q_k90 C s n ((x_st (x_bin 37 (fun a b => a + b))) C z) := x_to_at f90_36 C s n z
theorem f90_37 : x_fetch q_k90 37 = x_sti 39 6 := rfl
theorem t90_37 (C : xF) (s n : Nat) (z : xS) : x_to q_k90 C s (n + 1) 37 z = x_nx q_k90 C s n ((x_sti 39 6) C z) := x_to_at f90_37 C s n z
theorem f90_39 : x_fetch q_k90 39 = x_lda 40 0 := rfl
theorem t90_39 (C : xF) (s n : Nat) (z : xS) : x_to q_k90 C s (n + 1) 39 z = x_nx q_k90 C s n ((x_lda 40 0) C z) := x_to_at f90_39 C s n z
theorem f90_40 : x_fetch q_k90 40 = x_ldi 42 4 := rfl
theorem t90_40 (C : xF) (s n : Nat) (z : xS) : x_to q_k90 C s (n + 1) 40 z = x_nx q_k90 C s n ((x_ldi 42 4) C z) := x_to_at f90_40 C s n z
theorem f90_42 : x_fetch q_k90 42 = x_cl_ 45 6 1 := rfl
theorem t90_42 (C : xF) (s n : Nat) (z : xS) : x_to q_k90 C s (n + 1) 42 z = x_nx q_k90 C s n ((x_cl_ 45 6 1) C z) := x_to_at f90_42 C s n z
theorem f90_45 : x_fetch q_k90 45 = x_cv 48 159 2 14 := rfl
theorem t90_45 (C : xF) (s n : Nat) (z : xS) : x_to q_k90 C s (n + 1) 45 z = x_nx q_k90 C s n ((x_cv 48 159 2 14) C z) := x_to_at f90_45 C s n z
theorem f90_48 : x_fetch q_k90 48 = x_st (x_pop 49) := rfl
theorem t90_48 (C : xF) (s n : Nat) (z : xS) : x_to q_k90 C s (n + 1) 48 z = x_nx q_k90 C s n ((x_st (x_pop 49)) C z) := x_to_at f90_48 C s n z
theorem f90_49 : x_fetch q_k90 49 = x_st (x_push 50 (.int (0))) := rfl
theorem t90_49 (C : xF) (s n : Nat) (z : xS) : x_to q_k90 C s (n + 1) 49 z = x_nx q_k90 C s n ((x_st (x_push 50 (.int (0)))) C z) := x_to_at f90_49 C s n z
theorem f90_50 : x_fetch q_k90 50 = x_sti 52 7 := rfl
theorem t90_50 (C : xF) (s n : Nat) (z : xS) : x_to q_k90 C s (n + 1) 50 z = x_nx q_k90 C s n ((x_sti 52 7) C z) := x_to_at f90_50 C s n z
theorem f90_52 : x_fetch q_k90 52 = x_ldi 54 7 := rfl
theorem t90_52 (C : xF) (s n : Nat) (z : xS) : x_to q_k90 C s (n + 1) 52 z = x_nx q_k90 C s n ((x_ldi 54 7) C z) := x_to_at f90_52 C s n z
theorem f90_54 : x_fetch q_k90 54 = x_ldi 56 5 := rfl
theorem t90_54 (C : xF) (s n : Nat) (z : xS) : x_to q_k90 C s (n + 1) 54 z = x_nx q_k90 C s n ((x_ldi 56 5) C z) := x_to_at f90_54 C s n z
theorem f90_56 : x_fetch q_k90 56 = x_st (x_icge 94 59) := rfl
theorem t90_56 (C : xF) (s n : Nat) (z : xS) : x_to q_k90 C s (n + 1) 56 z = x_nx q_k90 C s n ((x_st (x_icge 94 59)) C z) := x_to_at f90_56 C s n z
theorem f90_59 : x_fetch q_k90 59 = x_lda 60 0 := rfl
theorem t90_59 (C : xF) (s n : Nat) (z : xS) : x_to q_k90 C s (n + 1) 59 z = x_nx q_k90 C s n ((x_lda 60 0) C z) := x_to_at f90_59 C s n z
theorem f90_60 : x_fetch q_k90 60 = x_ldi 62 7 := rfl
theorem t90_60 (C : xF) (s n : Nat) (z : xS) : x_to q_k90 C s (n + 1) 60 z = x_nx q_k90 C s n ((x_ldi 62 7) C z) := x_to_at f90_60 C s n z
theorem f90_62 : x_fetch q_k90 62 = x_st (x_ifne 70 65) := rfl
theorem t90_62 (C : xF) (s n : Nat) (z : xS) : x_to q_k90 C s (n + 1) 62 z = x_nx q_k90 C s n ((x_st (x_ifne 70 65)) C z) := x_to_at f90_62 C s n z
theorem f90_65 : x_fetch q_k90 65 = x_st (x_push 67 (.int (40))) := rfl
theorem t90_65 (C : xF) (s n : Nat) (z : xS) : x_to q_k90 C s (n + 1) 65 z = x_nx q_k90 C s n ((x_st (x_push 67 (.int (40)))) C z) := x_to_at f90_65 C s n z
theorem f90_67 : x_fetch q_k90 67 = x_st (x_goto 72) := rfl
theorem t90_67 (C : xF) (s n : Nat) (z : xS) : x_to q_k90 C s (n + 1) 67 z = x_nx q_k90 C s n ((x_st (x_goto 72)) C z) := x_to_at f90_67 C s n z
theorem f90_70 : x_fetch q_k90 70 = x_st (x_push 72 (.int (44))) := rfl
theorem t90_70 (C : xF) (s n : Nat) (z : xS) : x_to q_k90 C s (n + 1) 70 z = x_nx q_k90 C s n ((x_st (x_push 72 (.int (44)))) C z) := x_to_at f90_70 C s n z
theorem f90_72 : x_fetch q_k90 72 = x_cv 75 159 2 14 := rfl
theorem t90_72 (C : xF) (s n : Nat) (z : xS) : x_to q_k90 C s (n + 1) 72 z = x_nx q_k90 C s n ((x_cv 75 159 2 14) C z) := x_to_at f90_72 C s n z
theorem f90_75 : x_fetch q_k90 75 = x_st (x_pop 76) := rfl
theorem t90_75 (C : xF) (s n : Nat) (z : xS) : x_to q_k90 C s (n + 1) 75 z = x_nx q_k90 C s n ((x_st (x_pop 76)) C z) := x_to_at f90_75 C s n z
theorem f90_76 : x_fetch q_k90 76 = x_lda 77 0 := rfl
theorem t90_76 (C : xF) (s n : Nat) (z : xS) : x_to q_k90 C s (n + 1) 76 z = x_nx q_k90 C s n ((x_lda 77 0) C z) := x_to_at f90_76 C s n z
theorem f90_77 : x_fetch q_k90 77 = x_lda 78 1 := rfl
theorem t90_77 (C : xF) (s n : Nat) (z : xS) : x_to q_k90 C s (n + 1) 77 z = x_nx q_k90 C s n ((x_lda 78 1) C z) := x_to_at f90_77 C s n z
theorem f90_78 : x_fetch q_k90 78 = x_ldi 80 6 := rfl
theorem t90_78 (C : xF) (s n : Nat) (z : xS) : x_to q_k90 C s (n + 1) 78 z = x_nx q_k90 C s n ((x_ldi 80 6) C z) := x_to_at f90_78 C s n z
theorem f90_80 : x_fetch q_k90 80 = x_ldi 81 3 := rfl
theorem t90_80 (C : xF) (s n : Nat) (z : xS) : x_to q_k90 C s (n + 1) 80 z = x_nx q_k90 C s n ((x_ldi 81 3) C z) := x_to_at f90_80 C s n z
theorem f90_81 : x_fetch q_k90 81 = x_st (x_push 82 (.int (1))) := rfl
theorem t90_81 (C : xF) (s n : Nat) (z : xS) : x_to q_k90 C s (n + 1) 81 z = x_nx q_k90 C s n ((x_st (x_push 82 (.int (1)))) C z) := x_to_at f90_81 C s n z
theorem f90_82 : x_fetch q_k90 82 = x_st (x_bin 83 (fun a b => a + b)) := rfl
theorem t90_82 (C : xF) (s n : Nat) (z : xS) : x_to q_k90 C s (n + 1) 82 z = x_nx q_k90 C s n ((x_st (x_bin 83 (fun a b => a + b))) C z) := x_to_at f90_82 C s n z
theorem f90_83 : x_fetch q_k90 83 = x_cl_ 86 90 4 := rfl
theorem t90_83 (C : xF) (s n : Nat) (z : xS) : x_to q_k90 C s (n + 1) 83 z = x_nx q_k90 C s n ((x_cl_ 86 90 4) C z) := x_to_at f90_83 C s n z
theorem f90_86 : x_fetch q_k90 86 = x_sti 88 6 := rfl
theorem t90_86 (C : xF) (s n : Nat) (z : xS) : x_to q_k90 C s (n + 1) 86 z = x_nx q_k90 C s n ((x_sti 88 6) C z) := x_to_at f90_86 C s n z
theorem f90_88 : x_fetch q_k90 88 = x_iinc 91 7 (1) := rfl
theorem t90_88 (C : xF) (s n : Nat) (z : xS) : x_to q_k90 C s (n + 1) 88 z = x_nx q_k90 C s n ((x_iinc 91 7 (1)) C z) := x_to_at f90_88 C s n z
theorem f90_91 : x_fetch q_k90 91 = x_st (x_goto 52) := rfl
theorem t90_91 (C : xF) (s n : Nat) (z : xS) : x_to q_k90 C s (n + 1) 91 z = x_nx q_k90 C s n ((x_st (x_goto 52)) C z) := x_to_at f90_91 C s n z
theorem f90_94 : x_fetch q_k90 94 = x_ldi 96 5 := rfl
theorem t90_94 (C : xF) (s n : Nat) (z : xS) : x_to q_k90 C s (n + 1) 94 z = x_nx q_k90 C s n ((x_ldi 96 5) C z) := x_to_at f90_94 C s n z
theorem f90_96 : x_fetch q_k90 96 = x_st (x_ifle 106 99) := rfl
theorem t90_96 (C : xF) (s n : Nat) (z : xS) : x_to q_k90 C s (n + 1) 96 z = x_nx q_k90 C s n ((x_st (x_ifle 106 99)) C z) := x_to_at f90_96 C s n z
theorem f90_99 : x_fetch q_k90 99 = x_lda 100 0 := rfl
theorem t90_99 (C : xF) (s n : Nat) (z : xS) : x_to q_k90 C s (n + 1) 99 z = x_nx q_k90 C s n ((x_lda 100 0) C z) := x_to_at f90_99 C s n z
theorem f90_100 : x_fetch q_k90 100 = x_st (x_push 102 (.int (41))) := rfl
theorem t90_100 (C : xF) (s n : Nat) (z : xS) : x_to q_k90 C s (n + 1) 100 z = x_nx q_k90 C s n ((x_st (x_push 102 (.int (41)))) C z) := x_to_at f90_100 C s n z
theorem f90_102 : x_fetch q_k90 102 = x_cv 105 159 2 14 := rfl
theorem t90_102 (C : xF) (s n : Nat) (z : xS) : x_to q_k90 C s (n + 1) 102 z = x_nx q_k90 C s n ((x_cv 105 159 2 14) C z) := x_to_at f90_102 C s n z
theorem f90_105 : x_fetch q_k90 105 = x_st (x_pop 106) := rfl
theorem t90_105 (C : xF) (s n : Nat) (z : xS) : x_to q_k90 C s (n + 1) 105 z = x_nx q_k90 C s n ((x_st (x_pop 106)) C z) := x_to_at f90_105 C s n z
theorem f90_106 : x_fetch q_k90 106 = x_ldi 108 6 := rfl
theorem t90_106 (C : xF) (s n : Nat) (z : xS) : x_to q_k90 C s (n + 1) 106 z = x_nx q_k90 C s n ((x_ldi 108 6) C z) := x_to_at f90_106 C s n z
theorem f90_108 : x_fetch q_k90 108 = x_ri (.int) := rfl
theorem t90_108 (C : xF) (s n : Nat) (z : xS) : x_to q_k90 C s (n + 1) 108 z = x_nx q_k90 C s n ((x_ri (.int)) C z) := x_to_at f90_108 C s n z
/-- a form that the builder reads, below it -/
def FT (w : Nat → xC) (sb a : Nat) (D : List (Int × List Int)) : Prop := ∃ (S E B : List Int) (o : Int), fo w a S E B D.length (flt D).length o ∧ S.length < 10000 ∧ E.length < 10000 ∧ B.length < 10000 ∧ FW D S E B ∧ gC D ∧ (flt D).length ≤ S.length ∧ D.length ≤ E.length ∧ D.length ≤ B.length ∧ a + 3 < sb
theorem FT.mv {w w' : Nat → xC} {sb a : Nat} {D : List (Int × List Int)} (h : FT w sb a D) (f : ∀ j, j < sb → w' j = w j) : FT w' sb a D := by
  obtain ⟨S, E, B, o, ⟨h1, h2, h3, h4⟩, h5, h6, h7, h8, h9, h10, h11, h12, h13⟩ := h
  exact ⟨S, E, B, o, ⟨(f a (by omega)).trans h1, (f (a + 1) (by omega)).trans h2, (f (a + 2) (by omega)).trans h3, (f (a + 3) (by omega)).trans h4⟩, h5, h6, h7, h8, h9, h10, h11, h12, h13⟩
def rmT (j r : Nat) (v : List Int) : List Int := if r = 0 then [41] else (if j = 0 then 40 else 44) :: goT v [r]
theorem SB.k14 {w : Nat → xC} {N sb : Nat} {L : List Int} (h : SB w N sb L) : (∃ F : List Value, w sb = .inr (14, F)) ∧ sb < N := by
  obtain ⟨v, Bv, h1, h2, h3, _⟩ := h
  exact ⟨⟨_, h1⟩, by omega⟩
section TL
variable {sb a : Nat} {D : List (Int × List Int)}
def R90 (d k sb a : Nat) (D : List (Int × List Int)) : Prop := ∀ (p lvl : Nat) (w : Nat → xC) (N : Nat) (L : List Int), FT w sb a D → SB w N sb L → p < (flt D).length → Ts 1 (tm (flt D) p) → (tm (flt D) p).length ≤ k → lvl + (tm (flt D) p).length ≤ 40 → (∀ s ∈ tm (flt D) p, s ≠ 99) → L.length + 4 * (tm (flt D) p).length ≤ 190 →
  ∃ (w' : Nat → xC) (N' : Nat), TB w N sb L w' N' (L ++ goT (tm (flt D) p) []) ∧ Xc (d + 6 + k) 90 [.ref (sb + 3), .ref (a + 3), .int (iZ (p : Int)), .int (iZ (lvl : Int))] (hp w N) (some (.int (iZ ((p + (tm (flt D) p).length : Nat) : Int))), hp w' N')
def lv90 (lv : xL) (sb a : Nat) (lvl tr nx j : Int) : Prop := c1 lv ∧ x_lk lv 0 = some (.ref (sb + 3)) ∧ x_lk lv 1 = some (.ref (a + 3)) ∧ x_lk lv 3 = some (.int (iZ lvl)) ∧ x_lk lv 5 = some (.int (iZ tr)) ∧ x_lk lv 6 = some (.int (iZ nx)) ∧ x_lk lv 7 = some (.int (iZ j))
theorem gl1 {v : List Int} {r : Nat} : (goT v [r]).length ≤ 3 * v.length + 1 := by
  have := goT_len v [r]
  simpa using this
set_option maxHeartbeats 1000000 in
theorem l90 (d k : Nat) (IH : R90 d k sb a D) (n lvl : Nat) (n3 : n ≤ 3) (n0 : 0 < n) : ∀ (r j nx : Nat) (w : Nat → xC) (N : Nat) (L : List Int) (lv : xL), r + j = n → FT w sb a D → SB w N sb L → Ts r (tk r ((flt D).drop nx)) → (tk r ((flt D).drop nx)).length ≤ k → lvl + 1 + (tk r ((flt D).drop nx)).length ≤ 40 → (∀ s ∈ tk r ((flt D).drop nx), s ≠ 99) → L.length + 4 * (tk r ((flt D).drop nx)).length + 2 ≤ 190 → nx ≤ (flt D).length → lv90 lv sb a lvl n nx j →
    ∃ (w' : Nat → xC) (N' : Nat), TB w N sb L w' N' (L ++ rmT j r (tk r ((flt D).drop nx))) ∧ Gx q_k90 (d + 6 + k) 52 (lv, [], hp w N) (some (.int (iZ ((nx + (tk r ((flt D).drop nx)).length : Nat) : Int))), hp w' N')
  | 0, j, nx, w, N, L, lv, hr, hF, hS, hT, hk, hl, h9, hL, hx, hv => by
    have et : tk 0 ((flt D).drop nx) = [] := by cases (flt D).drop nx <;> rfl
    rw [et] at hL ⊢
    have f40 : (flt D).length ≤ 40 := by
      obtain ⟨_, _, _, _, _, _, _, _, _, g, _⟩ := hF
      exact g.2.1
    simp only [List.length_nil] at hL
    obtain ⟨w', N', i1, i2⟩ := hS.put (d + 1 + k) (by omega) 41 (by omega) (by omega)
    rw [show d + 1 + k + 5 = d + 6 + k by omega] at i2
    refine ⟨w', N', i1, ?_⟩
    obtain ⟨⟨F, hF14⟩, sN⟩ := hS.k14
    obtain ⟨hc, l0, l1, l3, l5, l6, l7⟩ := hv
    refine Gx.fin 30 i2 (fun X mm => ?_)
    obtain ⟨nn, hnn⟩ : ∃ nn : Int, nn = (n : Int) := ⟨_, rfl⟩
    obtain ⟨xx, hxx⟩ : ∃ xx : Int, xx = (nx : Int) := ⟨_, rfl⟩
    have ej : (j : Int) = nn := by omega
    rw [ej] at l7
    rw [← hnn] at l5
    rw [← hxx] at l6
    rw [List.length_nil, Nat.add_zero, ← hxx]
    have b1 : nn ≤ nn := by omega
    have b2 : ¬ nn ≤ 0 := by omega
    have b3 : nn ≤ 3 := by omega
    have x0 : 0 ≤ xx := by omega
    have x9 : xx ≤ 40 := by omega
    simp (disch := first | (refine c1_id ?_; assumption) | (refine c1_st rfl ?_; repeat (first | assumption | refine c1_st rfl ?_)) | omega) [nx_l, nx_r, nx_n, x_st, x_push, x_bin, x_div, x_un, x_dup, x_pop, x_dup2, x_goto, x_ifeq, x_ifne, x_iflt, x_ifge, x_ifgt, x_ifle, x_iceq, x_icne, x_iclt, x_icge, x_icgt, x_icle, x_ifnull, x_ifnonnull, x_ldi, x_lda, x_sti, x_sta, x_iinc, x_gf, x_pf, x_ald, x_ast, x_aln, x_len, x_cl_, x_cv, x_cs, x_rc, x_r0, x_isT, x_oi, x_rv, x_ri, x_ra, Value.category, t90_0, t90_1, t90_3, t90_6, t90_7, t90_8, t90_11, t90_14, t90_15, t90_18, t90_19, t90_20, t90_23, t90_24, t90_25, t90_27, t90_29, t90_32, t90_34, t90_35, t90_36, t90_37, t90_39, t90_40, t90_42, t90_45, t90_48, t90_49, t90_50, t90_52, t90_54, t90_56, t90_59, t90_60, t90_62, t90_65, t90_67, t90_70, t90_72, t90_75, t90_76, t90_77, t90_78, t90_80, t90_81, t90_82, t90_83, t90_86, t90_88, t90_91, t90_94, t90_96, t90_99, t90_100, t90_102, t90_105, t90_106, t90_108, lk_s, hp_get, hp_set, uH_at, uH_ne, uH_upd, uH_swap, iZ_add, iZ_sub, iZ_mul, iZ_neg, iZ_lt, iZ_le, iZ_eq, iZ_div, iZ_of, ix_Z, gZ_map, gZ_mapI, gZ_map', le_0, le_s, sZ_map, sZ_len, bZ_0, bZ_inj, bZ_t, bZ_f, nr_i, nr_0, nr_1, nr_b, ft_i, ft_b, ft_0, ft_1, zl_0, zl_1, zl_40, zl_41, zl_44, l0, l5, l6, l7, b1, b2, hF14, mm, -List.filter_filter, -List.getElem?_map, -List.getD_eq_getElem?_getD]
  | r + 1, j, nx, w, N, L, lv, hr, hF, hS, hT, hk, hl, h9, hL, hx, hv => by
    have hF' := hF
    obtain ⟨S, E, B, o, f1, f2, f3, f4, f5, f6, f7, f8, f9, f10⟩ := hF'
    have f40 := f6.2.1
    -- the first of them
    have hn0 : nx < (flt D).length := by
      rcases Nat.lt_or_ge nx (flt D).length with h | h
      · exact h
      · exfalso
        rw [List.drop_eq_nil_of_le h] at hT
        have : tk (r + 1) ([] : List Int) = [] := rfl
        rw [this, Ts_nil] at hT
        omega
    obtain ⟨vv, hvv⟩ : ∃ vv, vv = tk (r + 1) ((flt D).drop nx) := ⟨_, rfl⟩
    rw [← hvv] at hT hk hl h9 hL ⊢
    obtain ⟨t1, t2, t3⟩ := tk_sp hT
    obtain ⟨bb, hbb⟩ := tk_pre ((flt D).drop nx) (r + 1)
    rw [← hvv] at hbb
    obtain ⟨u, hu⟩ : ∃ u, u = tk 1 vv := ⟨_, rfl⟩
    obtain ⟨v', hv'⟩ : ∃ v', v' = vv.drop (tk 1 vv).length := ⟨_, rfl⟩
    rw [← hv'] at t2 t3
    rw [← hu] at t1 t3
    have eu : tm (flt D) nx = u := by
      unfold tm
      rw [hbb, t3, List.append_assoc]
      exact tk_app t1
    have ev : tk r ((flt D).drop (nx + u.length)) = v' := by
      rw [← List.drop_drop, hbb, t3, List.append_assoc, List.drop_left]
      exact tk_app t2
    have lvv : vv.length = u.length + v'.length := by rw [t3, List.length_append]
    have hul := Ts1_pos t1
    have hxl : nx + u.length ≤ (flt D).length := by
      have := tm_len_le (P := flt D) (i := nx) (by omega)
      rw [eu] at this
      exact this
    -- the sign before it
    obtain ⟨w1, N1, i1, i2⟩ := hS.put (d + 1 + k) (by omega) (if j = 0 then 40 else 44) (by split <;> omega) (by split <;> omega)
    rw [show d + 1 + k + 5 = d + 6 + k by omega] at i2
    have i1' := i1
    obtain ⟨_, _, _, hS1, fr1, _⟩ := i1'
    have hF1 := hF.mv fr1
    -- the term
    obtain ⟨w2, N2, i3, i4⟩ := IH nx (lvl + 1) w1 N1 _ hF1 hS1 hn0 (by rw [eu]; exact t1) (by rw [eu]; omega) (by rw [eu]; omega) (by
      rw [eu]
      intro s hs
      exact h9 s (by rw [t3]; exact List.mem_append_left _ hs)) (by rw [eu, List.length_append, List.length_singleton]; omega)
    rw [eu] at i3 i4
    have i3' := i3
    obtain ⟨_, _, _, hS2, fr2, _⟩ := i3'
    have hF2 := hF1.mv fr2
    have gl := goT_len u []
    simp only [List.length_nil, Nat.add_zero] at gl
    obtain ⟨hc, l0, l1, l3, l5, l6, l7⟩ := hv
    have C6 := c1_st (i := 6) (v := .int (iZ ((nx + u.length : Nat) : Int))) rfl hc
    have C7 := c1_st (i := 7) (v := .int (iZ ((j : Int) + 1))) rfl C6
    obtain ⟨w3, N3, i5, i6⟩ := l90 d k IH n lvl n3 n0 r (j + 1) (nx + u.length) w2 N2 _ ((7, .int (iZ ((j : Int) + 1))) :: List.filter (x_keep 7) ((6, .int (iZ ((nx + u.length : Nat) : Int))) :: lv.filter (x_keep 6))) (by omega) hF2 hS2 (by rw [ev]; exact t2) (by rw [ev]; omega) (by rw [ev]; omega) (by
      rw [ev]
      intro s hs
      exact h9 s (by rw [t3]; exact List.mem_append_right _ hs)) (by rw [ev, List.length_append, List.length_append, List.length_singleton]; omega) hxl ⟨C7, by rw [lk_s C6, lk_s hc]; exact l0, by rw [lk_s C6, lk_s hc]; exact l1, by rw [lk_s C6, lk_s hc]; exact l3, by rw [lk_s C6, lk_s hc]; exact l5, by rw [lk_s C6, lk_s hc]; rfl, by rw [lk_s C6]; rfl⟩
    rw [ev] at i5 i6
    refine ⟨w3, N3, ?_, ?_⟩
    · have e : L ++ rmT j (r + 1) vv = L ++ [if j = 0 then 40 else 44] ++ goT u [] ++ rmT (j + 1) r v' := by
        unfold rmT
        rw [if_neg (by omega), t3, goT_args t1 t2]
        simp
      rw [e]
      exact (i1.tr i3).tr i5
    · rw [show nx + vv.length = nx + u.length + v'.length by omega]
      obtain ⟨⟨F, hF14⟩, sN⟩ := hS.k14
      obtain ⟨nn, hnn⟩ : ∃ nn : Int, nn = (n : Int) := ⟨_, rfl⟩
      obtain ⟨xx, hxx⟩ : ∃ xx : Int, xx = (nx : Int) := ⟨_, rfl⟩
      obtain ⟨jj, hjj⟩ : ∃ jj : Int, jj = (j : Int) := ⟨_, rfl⟩
      obtain ⟨gg, hgg⟩ : ∃ gg : Int, gg = (lvl : Int) := ⟨_, rfl⟩
      obtain ⟨yy, hyy⟩ : ∃ yy : Int, yy = ((nx + u.length : Nat) : Int) := ⟨_, rfl⟩
      rw [show ((lvl + 1 : Nat) : Int) = gg + 1 by omega, ← hxx, ← hyy] at i4
      rw [← hjj, ← hyy] at i6
      rw [← hnn] at l5
      rw [← hxx] at l6
      rw [← hjj] at l7
      rw [← hgg] at l3
      have b1 : ¬ nn ≤ jj := by omega
      have j0 : 0 ≤ jj := by omega
      have n9 : nn ≤ 3 := by omega
      have g0 : 0 ≤ gg := by omega
      have g9 : gg ≤ 40 := by omega
      refine Gx.run 60 (i2.and i4) (fun X mm => ?_) (Gx.run (pc := 91) (z := ((7, .int (iZ (jj + 1))) :: List.filter (x_keep 7) ((6, .int (iZ yy)) :: lv.filter (x_keep 6)), [], hp w2 N2)) 5 Cs.tt (fun X _ => ?_) i6)
      · obtain ⟨mm1, mm2⟩ := mm
        by_cases hj0 : j = 0
        · rw [if_pos hj0] at mm1
          have b2 : jj = 0 := by omega
          have b3 : ¬ nn ≤ 0 := by omega
          simp (disch := first | (refine c1_id ?_; assumption) | (refine c1_st rfl ?_; repeat (first | assumption | refine c1_st rfl ?_)) | omega) [nx_l, nx_r, nx_n, x_st, x_push, x_bin, x_div, x_un, x_dup, x_pop, x_dup2, x_goto, x_ifeq, x_ifne, x_iflt, x_ifge, x_ifgt, x_ifle, x_iceq, x_icne, x_iclt, x_icge, x_icgt, x_icle, x_ifnull, x_ifnonnull, x_ldi, x_lda, x_sti, x_sta, x_iinc, x_gf, x_pf, x_ald, x_ast, x_aln, x_len, x_cl_, x_cv, x_cs, x_rc, x_r0, x_isT, x_oi, x_rv, x_ri, x_ra, Value.category, t90_0, t90_1, t90_3, t90_6, t90_7, t90_8, t90_11, t90_14, t90_15, t90_18, t90_19, t90_20, t90_23, t90_24, t90_25, t90_27, t90_29, t90_32, t90_34, t90_35, t90_36, t90_37, t90_39, t90_40, t90_42, t90_45, t90_48, t90_49, t90_50, t90_52, t90_54, t90_56, t90_59, t90_60, t90_62, t90_65, t90_67, t90_70, t90_72, t90_75, t90_76, t90_77, t90_78, t90_80, t90_81, t90_82, t90_83, t90_86, t90_88, t90_91, t90_94, t90_96, t90_99, t90_100, t90_102, t90_105, t90_106, t90_108, lk_s, hp_get, hp_set, uH_at, uH_ne, uH_upd, uH_swap, iZ_add, iZ_sub, iZ_mul, iZ_neg, iZ_lt, iZ_le, iZ_eq, iZ_div, iZ_of, ix_Z, gZ_map, gZ_mapI, gZ_map', le_0, le_s, sZ_map, sZ_len, bZ_0, bZ_inj, bZ_t, bZ_f, nr_i, nr_0, nr_1, nr_b, ft_i, ft_b, ft_0, ft_1, zl_0, zl_1, zl_40, zl_41, zl_44, l0, l1, l3, l5, l6, l7, b1, b2, b3, hF14, mm1, mm2, -List.filter_filter, -List.getElem?_map, -List.getD_eq_getElem?_getD]
        · rw [if_neg hj0] at mm1
          have b2 : ¬ jj = 0 := by omega
          simp (disch := first | (refine c1_id ?_; assumption) | (refine c1_st rfl ?_; repeat (first | assumption | refine c1_st rfl ?_)) | omega) [nx_l, nx_r, nx_n, x_st, x_push, x_bin, x_div, x_un, x_dup, x_pop, x_dup2, x_goto, x_ifeq, x_ifne, x_iflt, x_ifge, x_ifgt, x_ifle, x_iceq, x_icne, x_iclt, x_icge, x_icgt, x_icle, x_ifnull, x_ifnonnull, x_ldi, x_lda, x_sti, x_sta, x_iinc, x_gf, x_pf, x_ald, x_ast, x_aln, x_len, x_cl_, x_cv, x_cs, x_rc, x_r0, x_isT, x_oi, x_rv, x_ri, x_ra, Value.category, t90_0, t90_1, t90_3, t90_6, t90_7, t90_8, t90_11, t90_14, t90_15, t90_18, t90_19, t90_20, t90_23, t90_24, t90_25, t90_27, t90_29, t90_32, t90_34, t90_35, t90_36, t90_37, t90_39, t90_40, t90_42, t90_45, t90_48, t90_49, t90_50, t90_52, t90_54, t90_56, t90_59, t90_60, t90_62, t90_65, t90_67, t90_70, t90_72, t90_75, t90_76, t90_77, t90_78, t90_80, t90_81, t90_82, t90_83, t90_86, t90_88, t90_91, t90_94, t90_96, t90_99, t90_100, t90_102, t90_105, t90_106, t90_108, lk_s, hp_get, hp_set, uH_at, uH_ne, uH_upd, uH_swap, iZ_add, iZ_sub, iZ_mul, iZ_neg, iZ_lt, iZ_le, iZ_eq, iZ_div, iZ_of, ix_Z, gZ_map, gZ_mapI, gZ_map', le_0, le_s, sZ_map, sZ_len, bZ_0, bZ_inj, bZ_t, bZ_f, nr_i, nr_0, nr_1, nr_b, ft_i, ft_b, ft_0, ft_1, zl_0, zl_1, zl_40, zl_41, zl_44, l0, l1, l3, l5, l6, l7, b1, b2, hF14, mm1, mm2, -List.filter_filter, -List.getElem?_map, -List.getD_eq_getElem?_getD]
      · simp (disch := first | (refine c1_id ?_; assumption) | (refine c1_st rfl ?_; repeat (first | assumption | refine c1_st rfl ?_)) | omega) [nx_l, nx_r, nx_n, x_st, x_push, x_bin, x_div, x_un, x_dup, x_pop, x_dup2, x_goto, x_ifeq, x_ifne, x_iflt, x_ifge, x_ifgt, x_ifle, x_iceq, x_icne, x_iclt, x_icge, x_icgt, x_icle, x_ifnull, x_ifnonnull, x_ldi, x_lda, x_sti, x_sta, x_iinc, x_gf, x_pf, x_ald, x_ast, x_aln, x_len, x_cl_, x_cv, x_cs, x_rc, x_r0, x_isT, x_oi, x_rv, x_ri, x_ra, Value.category, t90_0, t90_1, t90_3, t90_6, t90_7, t90_8, t90_11, t90_14, t90_15, t90_18, t90_19, t90_20, t90_23, t90_24, t90_25, t90_27, t90_29, t90_32, t90_34, t90_35, t90_36, t90_37, t90_39, t90_40, t90_42, t90_45, t90_48, t90_49, t90_50, t90_52, t90_54, t90_56, t90_59, t90_60, t90_62, t90_65, t90_67, t90_70, t90_72, t90_75, t90_76, t90_77, t90_78, t90_80, t90_81, t90_82, t90_83, t90_86, t90_88, t90_91, t90_94, t90_96, t90_99, t90_100, t90_102, t90_105, t90_106, t90_108, lk_s, hp_get, hp_set, uH_at, uH_ne, uH_upd, uH_swap, iZ_add, iZ_sub, iZ_mul, iZ_neg, iZ_lt, iZ_le, iZ_eq, iZ_div, iZ_of, ix_Z, gZ_map, gZ_mapI, gZ_map', le_0, le_s, sZ_map, sZ_len, bZ_0, bZ_inj, bZ_t, bZ_f, nr_i, nr_0, nr_1, nr_b, ft_i, ft_b, ft_0, ft_1, zl_0, zl_1, zl_40, zl_41, zl_44, -List.filter_filter, -List.getElem?_map, -List.getD_eq_getElem?_getD]
set_option maxHeartbeats 1000000 in
theorem S90 (d : Nat) : ∀ k : Nat, R90 d k sb a D
  | 0 => fun p lvl w N L hF hS hp1 hT hk => by
    have := Ts1_pos hT
    omega
  | k + 1 => fun p lvl w N L hF hS hp1 hT hk hl h9 hL => by
    have IH := S90 d k
    have hF' := hF
    obtain ⟨S, E, B, o, f1, f2, f3, f4, f5, f6, f7, f8, f9, f10⟩ := hF'
    obtain ⟨⟨F, hF14⟩, sN⟩ := hS.k14
    have f40 := f6.2.1
    have hul := Ts1_pos hT
    have etm := tm_eq (P := flt D) hp1
    obtain ⟨s, hs⟩ : ∃ s, s = pz (flt D) p := ⟨_, rfl⟩
    obtain ⟨v, hv⟩ : ∃ v, v = tk (ar (pz (flt D) p)) ((flt D).drop (p + 1)) := ⟨_, rfl⟩
    rw [← hs] at etm hv
    rw [← hv] at etm
    have lu : (tm (flt D) p).length = v.length + 1 := by rw [etm]; rfl
    have hsD : 0 ≤ s ∧ s < 204 ∧ (s < 99 → s < 26) := by
      rw [hs]
      exact f6.hs _ (pz_mem hp1)
    have s99 : s ≠ 99 := h9 s (by rw [etm]; exact List.mem_cons_self)
    have hTv : Ts (ar s) v := by
      rw [etm] at hT
      have : Ts (0 + ar s) v := hT
      rw [Nat.zero_add] at this
      exact this
    have hsv : sgV s := ⟨hsD.1, hsD.2.1, fun z => by have := hsD.2.2 z; omega⟩
    have vr := vc_rng hsv
    have es : gZ S (p : Int) = vc s := by
      rw [f5.1 p hp1, hs]
      rfl
    have har : vc s % 4 = (ar s : Int) := by
      unfold vc ar
      by_cases z1 : s < 99
      · rw [if_pos z1, if_pos z1]
        omega
      · rw [if_neg z1, if_neg z1, if_neg s99, if_neg s99]
        omega
    have ar3 : ar s ≤ 3 := by
      have := Int.emod_lt_of_pos (vc s) (by decide : (0 : Int) < 4)
      omega
    have X5 := m5 (d + 5 + k) w N (vc s) vr.1 (by omega)
    rw [har] at X5
    have X6 := m6 (d + 4 + k) w N s hsD s99
    rw [show d + 5 + k + 1 = d + 6 + k by omega] at X5
    rw [show d + 4 + k + 2 = d + 6 + k by omega] at X6
    obtain ⟨w1, N1, i1, i2⟩ := hS.put (d + 1 + k) (by omega) (ch1 s) (ch1_rng hsD).1 (ch1_rng hsD).2
    rw [show d + 1 + k + 5 = d + 6 + k by omega] at i2
    have i1' := i1
    obtain ⟨_, _, _, hS1, fr1, _, hle1⟩ := i1'
    have hF1 := hF.mv fr1
    have fin : ∃ (w' : Nat → xC) (N' : Nat), TB w N sb L w' N' (L ++ goT (tm (flt D) p) []) ∧ Gx q_k90 (d + 6 + k) 0 (lv_args 0 [.ref (sb + 3), .ref (a + 3), .int (iZ (p : Int)), .int (iZ (lvl : Int))], [], hp w N) (some (.int (iZ ((p + (tm (flt D) p).length : Nat) : Int))), hp w' N') := by
      have hc : c1 (lv_args 0 [.ref (sb + 3), .ref (a + 3), .int (iZ (p : Int)), .int (iZ (lvl : Int))]) := by simp [c1, lv_args, Value.category]
      have l0 : x_lk (lv_args 0 [.ref (sb + 3), .ref (a + 3), .int (iZ (p : Int)), .int (iZ (lvl : Int))]) 0 = some (.ref (sb + 3)) := rfl
      have l1 : x_lk (lv_args 0 [.ref (sb + 3), .ref (a + 3), .int (iZ (p : Int)), .int (iZ (lvl : Int))]) 1 = some (.ref (a + 3)) := rfl
      have l2 : x_lk (lv_args 0 [.ref (sb + 3), .ref (a + 3), .int (iZ (p : Int)), .int (iZ (lvl : Int))]) 2 = some (.int (iZ (p : Int))) := rfl
      have l3 : x_lk (lv_args 0 [.ref (sb + 3), .ref (a + 3), .int (iZ (p : Int)), .int (iZ (lvl : Int))]) 3 = some (.int (iZ (lvl : Int))) := rfl
      generalize lv_args 0 [.ref (sb + 3), .ref (a + 3), .int (iZ (p : Int)), .int (iZ (lvl : Int))] = lv at hc l0 l1 l2 l3 ⊢
      obtain ⟨g1, g2, g3, g4⟩ := f1
      obtain ⟨pp, hpp⟩ : ∃ pp : Int, pp = (p : Int) := ⟨_, rfl⟩
      obtain ⟨gg, hgg⟩ : ∃ gg : Int, gg = (lvl : Int) := ⟨_, rfl⟩
      obtain ⟨fl, hfl⟩ : ∃ fl : Int, fl = ((flt D).length : Int) := ⟨_, rfl⟩
      obtain ⟨y, hy⟩ : ∃ y : Int, y = vc s := ⟨_, rfl⟩
      obtain ⟨n, hn⟩ : ∃ n : Int, n = (ar s : Int) := ⟨_, rfl⟩
      rw [← hpp, ← hy] at es
      rw [← hpp] at l2
      rw [← hgg] at l3
      rw [← hfl] at g1
      rw [← hy, ← hn] at X5
      rw [← hy] at X6
      have b1 : ¬ 40 ≤ gg := by omega
      have b2 : pp < fl := by omega
      have p0 : 0 ≤ pp := by omega
      have g0 : 0 ≤ gg := by omega
      have fl9 : fl ≤ 40 := by omega
      have pS : pp < S.length := by omega
      have C4 := c1_st (i := 4) (v := .int (iZ y)) rfl hc
      have C5 := c1_st (i := 5) (v := .int (iZ n)) rfl C4
      have C6 := c1_st (i := 6) (v := .int (iZ (pp + 1))) rfl C5
      have C7 := c1_st (i := 7) (v := .int (iZ 0)) rfl C6
      have L7 : lv90 ((7, .int (iZ 0)) :: List.filter (x_keep 7) ((6, .int (iZ (pp + 1))) :: List.filter (x_keep 6) ((5, .int (iZ n)) :: List.filter (x_keep 5) ((4, .int (iZ y)) :: lv.filter (x_keep 4))))) sb a lvl n (pp + 1) 0 := by
        refine ⟨C7, ?_, ?_, ?_, ?_, ?_, ?_⟩
        · rw [lk_s C6, lk_s C5, lk_s C4, lk_s hc]; exact l0
        · rw [lk_s C6, lk_s C5, lk_s C4, lk_s hc]; exact l1
        · rw [lk_s C6, lk_s C5, lk_s C4, lk_s hc, ← hgg]; exact l3
        · rw [lk_s C6, lk_s C5, lk_s C4]; rfl
        · rw [lk_s C6, lk_s C5]; rfl
        · rw [lk_s C6]; rfl
      have g52 : ∀ res, Gx q_k90 (d + 6 + k) 52 ((7, .int (iZ 0)) :: List.filter (x_keep 7) ((6, .int (iZ (pp + 1))) :: List.filter (x_keep 6) ((5, .int (iZ n)) :: List.filter (x_keep 5) ((4, .int (iZ y)) :: lv.filter (x_keep 4)))), [], hp w1 N1) res → Gx q_k90 (d + 6 + k) 0 (lv, [], hp w N) res := fun res hres => by
        refine Gx.run 60 ((X5.and X6).and i2) (fun X mm => ?_) hres
        obtain ⟨⟨mm1, mm2⟩, mm3⟩ := mm
        simp (disch := first | (refine c1_id ?_; assumption) | (refine c1_st rfl ?_; repeat (first | assumption | refine c1_st rfl ?_)) | omega) [nx_l, nx_r, nx_n, x_st, x_push, x_bin, x_div, x_un, x_dup, x_pop, x_dup2, x_goto, x_ifeq, x_ifne, x_iflt, x_ifge, x_ifgt, x_ifle, x_iceq, x_icne, x_iclt, x_icge, x_icgt, x_icle, x_ifnull, x_ifnonnull, x_ldi, x_lda, x_sti, x_sta, x_iinc, x_gf, x_pf, x_ald, x_ast, x_aln, x_len, x_cl_, x_cv, x_cs, x_rc, x_r0, x_isT, x_oi, x_rv, x_ri, x_ra, Value.category, t90_0, t90_1, t90_3, t90_6, t90_7, t90_8, t90_11, t90_14, t90_15, t90_18, t90_19, t90_20, t90_23, t90_24, t90_25, t90_27, t90_29, t90_32, t90_34, t90_35, t90_36, t90_37, t90_39, t90_40, t90_42, t90_45, t90_48, t90_49, t90_50, t90_52, t90_54, t90_56, t90_59, t90_60, t90_62, t90_65, t90_67, t90_70, t90_72, t90_75, t90_76, t90_77, t90_78, t90_80, t90_81, t90_82, t90_83, t90_86, t90_88, t90_91, t90_94, t90_96, t90_99, t90_100, t90_102, t90_105, t90_106, t90_108, lk_s, hp_get, hp_set, uH_at, uH_ne, uH_upd, uH_swap, iZ_add, iZ_sub, iZ_mul, iZ_neg, iZ_lt, iZ_le, iZ_eq, iZ_div, iZ_of, ix_Z, gZ_map, gZ_mapI, gZ_map', le_0, le_s, sZ_map, sZ_len, bZ_0, bZ_inj, bZ_t, bZ_f, nr_i, nr_0, nr_1, nr_b, ft_i, ft_b, ft_0, ft_1, zl_0, zl_1, zl_40, zl_41, zl_44, l0, l1, l2, l3, g1, g2, es, b1, b2, hF14, mm1, mm2, mm3, -List.filter_filter, -List.getElem?_map, -List.getD_eq_getElem?_getD]
      generalize ((7, .int (iZ 0)) :: List.filter (x_keep 7) ((6, .int (iZ (pp + 1))) :: List.filter (x_keep 6) ((5, .int (iZ n)) :: List.filter (x_keep 5) ((4, .int (iZ y)) :: lv.filter (x_keep 4)))) : xL) = lv7 at L7 g52
      by_cases h0 : ar s = 0
      · have ev : v = [] := by
          rw [h0] at hTv
          exact Ts_zero hTv
        rw [ev] at etm lu
        refine ⟨w1, N1, ?_, g52 _ ?_⟩
        · have e : goT (tm (flt D) p) [] = [ch1 s] := by
            rw [etm, goT_cons, if_neg (by omega)]
            rfl
          rw [e]
          exact i1
        · obtain ⟨_, m0, m1, m3, m5_, m6_, m7_⟩ := L7
          have n0 : n = 0 := by omega
          rw [n0] at m5_
          rw [lu, List.length_nil, show ((p + (0 + 1) : Nat) : Int) = pp + 1 by omega]
          refine Gx.fin 20 Cs.tt (fun X _ => ?_)
          simp (disch := first | (refine c1_id ?_; assumption) | (refine c1_st rfl ?_; repeat (first | assumption | refine c1_st rfl ?_)) | omega) [nx_l, nx_r, nx_n, x_st, x_push, x_bin, x_div, x_un, x_dup, x_pop, x_dup2, x_goto, x_ifeq, x_ifne, x_iflt, x_ifge, x_ifgt, x_ifle, x_iceq, x_icne, x_iclt, x_icge, x_icgt, x_icle, x_ifnull, x_ifnonnull, x_ldi, x_lda, x_sti, x_sta, x_iinc, x_gf, x_pf, x_ald, x_ast, x_aln, x_len, x_cl_, x_cv, x_cs, x_rc, x_r0, x_isT, x_oi, x_rv, x_ri, x_ra, Value.category, t90_0, t90_1, t90_3, t90_6, t90_7, t90_8, t90_11, t90_14, t90_15, t90_18, t90_19, t90_20, t90_23, t90_24, t90_25, t90_27, t90_29, t90_32, t90_34, t90_35, t90_36, t90_37, t90_39, t90_40, t90_42, t90_45, t90_48, t90_49, t90_50, t90_52, t90_54, t90_56, t90_59, t90_60, t90_62, t90_65, t90_67, t90_70, t90_72, t90_75, t90_76, t90_77, t90_78, t90_80, t90_81, t90_82, t90_83, t90_86, t90_88, t90_91, t90_94, t90_96, t90_99, t90_100, t90_102, t90_105, t90_106, t90_108, lk_s, hp_get, hp_set, uH_at, uH_ne, uH_upd, uH_swap, iZ_add, iZ_sub, iZ_mul, iZ_neg, iZ_lt, iZ_le, iZ_eq, iZ_div, iZ_of, ix_Z, gZ_map, gZ_mapI, gZ_map', le_0, le_s, sZ_map, sZ_len, bZ_0, bZ_inj, bZ_t, bZ_f, nr_i, nr_0, nr_1, nr_b, ft_i, ft_b, ft_0, ft_1, zl_0, zl_1, zl_40, zl_41, zl_44, m0, m5_, m6_, m7_, -List.filter_filter, -List.getElem?_map, -List.getD_eq_getElem?_getD]
      · have ev : tk (ar s) ((flt D).drop (p + 1)) = v := hv.symm
        obtain ⟨w2, N2, i3, i4⟩ := l90 (sb := sb) (a := a) (D := D) d k IH (ar s) lvl ar3 (by omega) (ar s) 0 (p + 1) w1 N1 _ lv7 (by omega) hF1 hS1 (by rw [ev]; exact hTv) (by rw [ev]; omega) (by rw [ev]; omega) (by
          rw [ev]
          intro z hz
          exact h9 z (by rw [etm]; exact List.mem_cons_of_mem _ hz)) (by rw [ev, List.length_append, List.length_singleton]; omega) (by omega) (by
          rw [show ((p + 1 : Nat) : Int) = pp + 1 by omega, ← hn]
          exact L7)
        rw [ev] at i3 i4
        refine ⟨w2, N2, ?_, g52 _ ?_⟩
        · have e : L ++ goT (tm (flt D) p) [] = L ++ [ch1 s] ++ rmT 0 (ar s) v := by
            rw [etm, goT_cons, if_pos (by omega)]
            unfold rmT
            rw [if_neg h0, if_pos rfl]
            simp
          rw [e]
          exact i1.tr i3
        · rw [lu, show p + (v.length + 1) = p + 1 + v.length by omega]
          exact i4
    obtain ⟨w', N', z1, z2⟩ := fin
    exact ⟨w', N', z1, Xc.of rfl (by simp [lg_sl, Value.category]) z2 z1.2.2.2.2.2.2⟩
end TL
