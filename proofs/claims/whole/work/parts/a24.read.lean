/-! the class: literals and clauses are read -/
theorem f30_0 : x_fetch q_k30 0 = x_lda 1 1 := rfl
theorem t30_0 (C : xF) (s n : Nat) (z : xS) : x_to q_k30 C s (n + 1) 0 z = x_nx q_k30 C s n ((x_lda 1 1) C z) := x_to_at f30_0 C s n z
theorem f30_1 : x_fetch q_k30 1 = x_lda 2 0 := rfl
theorem t30_1 (C : xF) (s n : Nat) (z : xS) : x_to q_k30 C s (n + 1) 1 z = x_nx q_k30 C s n ((x_lda 2 0) C z) := x_to_at f30_1 C s n z
theorem f30_2 : x_fetch q_k30 2 = x_st (x_push 4 (.int (126))) := rfl
theorem t30_2 (C : xF) (s n : Nat) (z : xS) : x_to q_k30 C s (n + 1) 2 z = x_nx q_k30 C s n ((x_st (x_push 4 (.int (126)))) C z) := x_to_at f30_2 C s n z
theorem f30_4 : x_fetch q_k30 4 = x_cv 7 34 2 3 := rfl
theorem t30_4 (C : xF) (s n : Nat) (z : xS) : x_to q_k30 C s (n + 1) 4 z = x_nx q_k30 C s n ((x_cv 7 34 2 3) C z) := x_to_at f30_4 C s n z
theorem f30_7 : x_fetch q_k30 7 = x_cv 10 15 2 4 := rfl
theorem t30_7 (C : xF) (s n : Nat) (z : xS) : x_to q_k30 C s (n + 1) 7 z = x_nx q_k30 C s n ((x_cv 10 15 2 4) C z) := x_to_at f30_7 C s n z
theorem f30_10 : x_fetch q_k30 10 = x_lda 11 0 := rfl
theorem t30_10 (C : xF) (s n : Nat) (z : xS) : x_to q_k30 C s (n + 1) 10 z = x_nx q_k30 C s n ((x_lda 11 0) C z) := x_to_at f30_10 C s n z
theorem f30_11 : x_fetch q_k30 11 = x_cv 14 31 1 3 := rfl
theorem t30_11 (C : xF) (s n : Nat) (z : xS) : x_to q_k30 C s (n + 1) 11 z = x_nx q_k30 C s n ((x_cv 14 31 1 3) C z) := x_to_at f30_11 C s n z
theorem f30_14 : x_fetch q_k30 14 = x_st (x_ifeq 66 17) := rfl
theorem t30_14 (C : xF) (s n : Nat) (z : xS) : x_to q_k30 C s (n + 1) 14 z = x_nx q_k30 C s n ((x_st (x_ifeq 66 17)) C z) := x_to_at f30_14 C s n z
theorem f30_17 : x_fetch q_k30 17 = x_lda 18 1 := rfl
theorem t30_17 (C : xF) (s n : Nat) (z : xS) : x_to q_k30 C s (n + 1) 17 z = x_nx q_k30 C s n ((x_lda 18 1) C z) := x_to_at f30_17 C s n z
theorem f30_18 : x_fetch q_k30 18 = x_st (x_push 20 (.int (106))) := rfl
theorem t30_18 (C : xF) (s n : Nat) (z : xS) : x_to q_k30 C s (n + 1) 18 z = x_nx q_k30 C s n ((x_st (x_push 20 (.int (106)))) C z) := x_to_at f30_18 C s n z
theorem f30_20 : x_fetch q_k30 20 = x_cv 23 16 2 4 := rfl
theorem t30_20 (C : xF) (s n : Nat) (z : xS) : x_to q_k30 C s (n + 1) 20 z = x_nx q_k30 C s n ((x_cv 23 16 2 4) C z) := x_to_at f30_20 C s n z
theorem f30_23 : x_fetch q_k30 23 = x_st (x_ifeq 64 26) := rfl
theorem t30_23 (C : xF) (s n : Nat) (z : xS) : x_to q_k30 C s (n + 1) 23 z = x_nx q_k30 C s n ((x_st (x_ifeq 64 26)) C z) := x_to_at f30_23 C s n z
theorem f30_26 : x_fetch q_k30 26 = x_lda 27 0 := rfl
theorem t30_26 (C : xF) (s n : Nat) (z : xS) : x_to q_k30 C s (n + 1) 26 z = x_nx q_k30 C s n ((x_lda 27 0) C z) := x_to_at f30_26 C s n z
theorem f30_27 : x_fetch q_k30 27 = x_lda 28 1 := rfl
theorem t30_27 (C : xF) (s n : Nat) (z : xS) : x_to q_k30 C s (n + 1) 27 z = x_nx q_k30 C s n ((x_lda 28 1) C z) := x_to_at f30_27 C s n z
theorem f30_28 : x_fetch q_k30 28 = x_st (x_push 29 (.int (0))) := rfl
theorem t30_28 (C : xF) (s n : Nat) (z : xS) : x_to q_k30 C s (n + 1) 28 z = x_nx q_k30 C s n ((x_st (x_push 29 (.int (0)))) C z) := x_to_at f30_28 C s n z
theorem f30_29 : x_fetch q_k30 29 = x_cv 32 33 3 3 := rfl
theorem t30_29 (C : xF) (s n : Nat) (z : xS) : x_to q_k30 C s (n + 1) 29 z = x_nx q_k30 C s n ((x_cv 32 33 3 3) C z) := x_to_at f30_29 C s n z
theorem f30_32 : x_fetch q_k30 32 = x_st (x_ifeq 64 35) := rfl
theorem t30_32 (C : xF) (s n : Nat) (z : xS) : x_to q_k30 C s (n + 1) 32 z = x_nx q_k30 C s n ((x_st (x_ifeq 64 35)) C z) := x_to_at f30_32 C s n z
theorem f30_35 : x_fetch q_k30 35 = x_lda 36 0 := rfl
theorem t30_35 (C : xF) (s n : Nat) (z : xS) : x_to q_k30 C s (n + 1) 35 z = x_nx q_k30 C s n ((x_lda 36 0) C z) := x_to_at f30_35 C s n z
theorem f30_36 : x_fetch q_k30 36 = x_st (x_push 38 (.int (61))) := rfl
theorem t30_36 (C : xF) (s n : Nat) (z : xS) : x_to q_k30 C s (n + 1) 36 z = x_nx q_k30 C s n ((x_st (x_push 38 (.int (61)))) C z) := x_to_at f30_36 C s n z
theorem f30_38 : x_fetch q_k30 38 = x_cv 41 34 2 3 := rfl
theorem t30_38 (C : xF) (s n : Nat) (z : xS) : x_to q_k30 C s (n + 1) 38 z = x_nx q_k30 C s n ((x_cv 41 34 2 3) C z) := x_to_at f30_38 C s n z
theorem f30_41 : x_fetch q_k30 41 = x_st (x_ifeq 64 44) := rfl
theorem t30_41 (C : xF) (s n : Nat) (z : xS) : x_to q_k30 C s (n + 1) 41 z = x_nx q_k30 C s n ((x_st (x_ifeq 64 44)) C z) := x_to_at f30_41 C s n z
theorem f30_44 : x_fetch q_k30 44 = x_lda 45 0 := rfl
theorem t30_44 (C : xF) (s n : Nat) (z : xS) : x_to q_k30 C s (n + 1) 44 z = x_nx q_k30 C s n ((x_lda 45 0) C z) := x_to_at f30_44 C s n z
theorem f30_45 : x_fetch q_k30 45 = x_lda 46 1 := rfl
theorem t30_45 (C : xF) (s n : Nat) (z : xS) : x_to q_k30 C s (n + 1) 45 z = x_nx q_k30 C s n ((x_lda 46 1) C z) := x_to_at f30_45 C s n z
theorem f30_46 : x_fetch q_k30 46 = x_st (x_push 47 (.int (0))) := rfl
theorem t30_46 (C : xF) (s n : Nat) (z : xS) : x_to q_k30 C s (n + 1) 46 z = x_nx q_k30 C s n ((x_st (x_push 47 (.int (0)))) C z) := x_to_at f30_46 C s n z
theorem f30_47 : x_fetch q_k30 47 = x_cv 50 33 3 3 := rfl
theorem t30_47 (C : xF) (s n : Nat) (z : xS) : x_to q_k30 C s (n + 1) 47 z = x_nx q_k30 C s n ((x_cv 50 33 3 3) C z) := x_to_at f30_47 C s n z
theorem f30_50 : x_fetch q_k30 50 = x_st (x_ifeq 64 53) := rfl
theorem t30_50 (C : xF) (s n : Nat) (z : xS) : x_to q_k30 C s (n + 1) 50 z = x_nx q_k30 C s n ((x_st (x_ifeq 64 53)) C z) := x_to_at f30_50 C s n z
theorem f30_53 : x_fetch q_k30 53 = x_lda 54 1 := rfl
theorem t30_53 (C : xF) (s n : Nat) (z : xS) : x_to q_k30 C s (n + 1) 53 z = x_nx q_k30 C s n ((x_lda 54 1) C z) := x_to_at f30_53 C s n z
theorem f30_54 : x_fetch q_k30 54 = x_cv 57 17 1 4 := rfl
theorem t30_54 (C : xF) (s n : Nat) (z : xS) : x_to q_k30 C s (n + 1) 54 z = x_nx q_k30 C s n ((x_cv 57 17 1 4) C z) := x_to_at f30_54 C s n z
theorem f30_57 : x_fetch q_k30 57 = x_st (x_ifeq 64 60) := rfl
theorem t30_57 (C : xF) (s n : Nat) (z : xS) : x_to q_k30 C s (n + 1) 57 z = x_nx q_k30 C s n ((x_st (x_ifeq 64 60)) C z) := x_to_at f30_57 C s n z
theorem f30_60 : x_fetch q_k30 60 = x_st (x_push 61 (.int (1))) := rfl
theorem t30_60 (C : xF) (s n : Nat) (z : xS) : x_to q_k30 C s (n + 1) 60 z = x_nx q_k30 C s n ((x_st (x_push 61 (.int (1)))) C z) := x_to_at f30_60 C s n z
theorem f30_61 : x_fetch q_k30 61 = x_st (x_goto 65) := rfl
theorem t30_61 (C : xF) (s n : Nat) (z : xS) : x_to q_k30 C s (n + 1) 61 z = x_nx q_k30 C s n ((x_st (x_goto 65)) C z) := x_to_at f30_61 C s n z
theorem f30_64 : x_fetch q_k30 64 = x_st (x_push 65 (.int (0))) := rfl
theorem t30_64 (C : xF) (s n : Nat) (z : xS) : x_to q_k30 C s (n + 1) 64 z = x_nx q_k30 C s n ((x_st (x_push 65 (.int (0)))) C z) := x_to_at f30_64 C s n z
theorem f30_65 : x_fetch q_k30 65 = x_ri (.boolean) := rfl
theorem t30_65 (C : xF) (s n : Nat) (z : xS) : x_to q_k30 C s (n + 1) 65 z = x_nx q_k30 C s n ((x_ri (.boolean)) C z) := x_to_at f30_65 C s n z
theorem f30_66 : x_fetch q_k30 66 = x_lda 67 0 := rfl
theorem t30_66 (C : xF) (s n : Nat) (z : xS) : x_to q_k30 C s (n + 1) 66 z = x_nx q_k30 C s n ((x_lda 67 0) C z) := x_to_at f30_66 C s n z
theorem f30_67 : x_fetch q_k30 67 = x_cv 70 32 1 3 := rfl
theorem t30_67 (C : xF) (s n : Nat) (z : xS) : x_to q_k30 C s (n + 1) 67 z = x_nx q_k30 C s n ((x_cv 70 32 1 3) C z) := x_to_at f30_67 C s n z
theorem f30_70 : x_fetch q_k30 70 = x_st (x_ifne 93 73) := rfl
theorem t30_70 (C : xF) (s n : Nat) (z : xS) : x_to q_k30 C s (n + 1) 70 z = x_nx q_k30 C s n ((x_st (x_ifne 93 73)) C z) := x_to_at f30_70 C s n z
theorem f30_73 : x_fetch q_k30 73 = x_lda 74 0 := rfl
theorem t30_73 (C : xF) (s n : Nat) (z : xS) : x_to q_k30 C s (n + 1) 73 z = x_nx q_k30 C s n ((x_lda 74 0) C z) := x_to_at f30_73 C s n z
theorem f30_74 : x_fetch q_k30 74 = x_lda 75 1 := rfl
theorem t30_74 (C : xF) (s n : Nat) (z : xS) : x_to q_k30 C s (n + 1) 74 z = x_nx q_k30 C s n ((x_lda 75 1) C z) := x_to_at f30_74 C s n z
theorem f30_75 : x_fetch q_k30 75 = x_st (x_push 76 (.int (0))) := rfl
theorem t30_75 (C : xF) (s n : Nat) (z : xS) : x_to q_k30 C s (n + 1) 75 z = x_nx q_k30 C s n ((x_st (x_push 76 (.int (0)))) C z) := x_to_at f30_75 C s n z
theorem f30_76 : x_fetch q_k30 76 = x_cv 79 33 3 3 := rfl
theorem t30_76 (C : xF) (s n : Nat) (z : xS) : x_to q_k30 C s (n + 1) 76 z = x_nx q_k30 C s n ((x_cv 79 33 3 3) C z) := x_to_at f30_76 C s n z
theorem f30_79 : x_fetch q_k30 79 = x_st (x_ifeq 93 82) := rfl
theorem t30_79 (C : xF) (s n : Nat) (z : xS) : x_to q_k30 C s (n + 1) 79 z = x_nx q_k30 C s n ((x_st (x_ifeq 93 82)) C z) := x_to_at f30_79 C s n z
theorem f30_82 : x_fetch q_k30 82 = x_lda 83 1 := rfl
theorem t30_82 (C : xF) (s n : Nat) (z : xS) : x_to q_k30 C s (n + 1) 82 z = x_nx q_k30 C s n ((x_lda 83 1) C z) := x_to_at f30_82 C s n z
theorem f30_83 : x_fetch q_k30 83 = x_cv 86 17 1 4 := rfl
theorem t30_83 (C : xF) (s n : Nat) (z : xS) : x_to q_k30 C s (n + 1) 83 z = x_nx q_k30 C s n ((x_cv 86 17 1 4) C z) := x_to_at f30_83 C s n z
theorem f30_86 : x_fetch q_k30 86 = x_st (x_ifeq 93 89) := rfl
theorem t30_86 (C : xF) (s n : Nat) (z : xS) : x_to q_k30 C s (n + 1) 86 z = x_nx q_k30 C s n ((x_st (x_ifeq 93 89)) C z) := x_to_at f30_86 C s n z
theorem f30_89 : x_fetch q_k30 89 = x_st (x_push 90 (.int (1))) := rfl
theorem t30_89 (C : xF) (s n : Nat) (z : xS) : x_to q_k30 C s (n + 1) 89 z = x_nx q_k30 C s n ((x_st (x_push 90 (.int (1)))) C z) := x_to_at f30_89 C s n z
theorem f30_90 : x_fetch q_k30 90 = x_st (x_goto 94) := rfl
theorem t30_90 (C : xF) (s n : Nat) (z : xS) : x_to q_k30 C s (n + 1) 90 z = x_nx q_k30 C s n ((x_st (x_goto 94)) C z) := x_to_at f30_90 C s n z
theorem f30_93 : x_fetch q_k30 93 = x_st (x_push 94 (.int (0))) := rfl
theorem t30_93 (C : xF) (s n : Nat) (z : xS) : x_to q_k30 C s (n + 1) 93 z = x_nx q_k30 C s n ((x_st (x_push 94 (.int (0)))) C z) := x_to_at f30_93 C s n z
theorem f30_94 : x_fetch q_k30 94 = x_ri (.boolean) := rfl
theorem t30_94 (C : xF) (s n : Nat) (z : xS) : x_to q_k30 C s (n + 1) 94 z = x_nx q_k30 C s n ((x_ri (.boolean)) C z) := x_to_at f30_94 C s n z
def sgn (r : List Int) : Int × List Int := match r with
  | [] => (0, [])
  | c :: r1 => if c = 126 then (1, r1) else (0, c :: r1)
def clM (n : Nat) (r : List Int) : Option (List Int × List Int) := if eqA r = true then (match rdT n r with
  | none => none
  | some (_, []) => none
  | some (t, c :: r1) => if c = 61 then (match rdT n r1 with
    | none => none
    | some (u, r2) => some (99 :: (t ++ u), r2)) else none) else if hdU r = true then none else rdT n r
def clL (n : Nat) (r : List Int) : Option ((Int × List Int) × List Int) := match clM n (sgn r).2 with
  | none => none
  | some (t, r1) => some (((sgn r).1, t), r1)
def clC (n : Nat) : Nat → List Int → Option (List (Int × List Int))
  | 0, _ => none
  | k + 1, r => match clL n r with
    | none => none
    | some (x, []) => some [x]
    | some (x, c :: r1) => if c = 124 then (clC n k r1).map (fun l => x :: l) else none
def okL (C : List (Int × List Int)) (x : Int × List Int) : Prop := x.2.length ≤ 40 ∧ (x ∈ C ∨ (C.length + 1 ≤ 6 ∧ (flt C).length + x.2.length ≤ 40))
section RL
variable {N : Nat} {Tx : List Int} {l : Int} {C : List (Int × List Int)} {b : Int} {w : Nat → xC} {p : Int} {r t : List Int}
theorem m33 (d : Nat) (hN : 53 ≤ N) (hL : LQ w 7 C b t) (h1 : w 1 = pO p l) (h2 : w 2 = cI 2 Tx) (hx : DX Tx l p r) :
    (∃ (u r1 : List Int) (p' : Int) (w' : Nat → xC), rdT 30 r = some (u, r1) ∧ t.length + u.length ≤ 40 ∧ Fr ksF w w' ∧ LQ w' 7 C b (t ++ u) ∧ w' 1 = pO p' l ∧ DX Tx l p' r1 ∧ Xc (d + 32) 33 [.ref 4, .ref 10, .int (iZ 0)] (hp w N) (some (.int (iZ 1)), hp w' N)) ∨
    ((∀ u r1, rdT 30 r = some (u, r1) → 40 < t.length + u.length) ∧ ∃ (p' : Int) (w' : Nat → xC), Fr ksF w w' ∧ JK w' 7 ∧ w' 1 = pO p' l ∧ Xc (d + 32) 33 [.ref 4, .ref 10, .int (iZ 0)] (hp w N) (some (.int (iZ 0)), hp w' N)) := S33 d hN 30 (by omega) r t p w hL h1 h2 hx
theorem P30 (d : Nat) (hN : 53 ≤ N) (hL : LA w 7 C) (h1 : w 1 = pO p l) (h2 : w 2 = cI 2 Tx) (hx : DX Tx l p r) (lv : xL) (hc : c1 lv) (l0 : x_lk lv 0 = some (.ref 4)) (l1 : x_lk lv 1 = some (.ref 10)) :
    ∃ (p' : Int) (w' : Nat → xC), Fr ksJ w w' ∧ LQ w' 7 C (sgn r).1 [] ∧ w' 1 = pO p' l ∧ DX Tx l p' (sgn r).2 ∧ ((sgn r).1 = 0 ∨ (sgn r).1 = 1) ∧ ∀ res, Gx q_k30 (d + 32) 10 (lv, [], hp w' N) res → Gx q_k30 (d + 32) 0 (lv, [], hp w N) res := by
  by_cases h : ∃ r2, r = 126 :: r2
  · obtain ⟨r2, rfl⟩ := h
    have Xt := m34y (N := N) (d + 31) hN h1 h2 hx
    obtain ⟨w1, hw1⟩ : ∃ w1, w1 = uH w 1 (pO (p + 1) l) := ⟨_, rfl⟩
    rw [← hw1] at Xt
    obtain ⟨F7, hF1⟩ := (hL.mv (w' := w1) (fun j j0 _ => by rw [hw1, uH_ne (by omega)])).k7
    obtain ⟨w2, s1, s2, s3⟩ := (hL.mv (w' := w1) (fun j j0 _ => by rw [hw1, uH_ne (by omega)])).lq (N := N) (d + 31) (by omega) (b := 1) (Or.inr rfl)
    have F1 : Fr ksJ w w1 := by rw [hw1]; exact (Fr.rf _ _).up (by decide)
    refine ⟨p + 1, w2, F1.tr (s1.sub (by decide)), s2, (s1 1 (by decide)).trans (by rw [hw1, uH_at]), hx.tl, Or.inr rfl, fun res hres => ?_⟩
    refine Gx.run 20 (Xt.and s3) (fun X mm => ?_) hres
    obtain ⟨mm1, mm2⟩ := mm
    simp (disch := first | (refine c1_id ?_; assumption) | (refine c1_st rfl ?_; repeat (first | assumption | refine c1_st rfl ?_)) | omega) [nx_l, nx_r, nx_n, x_st, x_push, x_bin, x_div, x_un, x_dup, x_pop, x_dup2, x_goto, x_ifeq, x_ifne, x_iflt, x_ifge, x_ifgt, x_ifle, x_iceq, x_icne, x_iclt, x_icge, x_icgt, x_icle, x_ifnull, x_ifnonnull, x_ldi, x_lda, x_sti, x_sta, x_iinc, x_gf, x_pf, x_ald, x_ast, x_aln, x_len, x_cl_, x_cv, x_cs, x_rc, x_r0, x_isT, x_oi, x_rv, x_ri, x_ra, Value.category, t30_0, t30_1, t30_2, t30_4, t30_7, t30_10, t30_11, t30_14, t30_17, t30_18, t30_20, t30_23, t30_26, t30_27, t30_28, t30_29, t30_32, t30_35, t30_36, t30_38, t30_41, t30_44, t30_45, t30_46, t30_47, t30_50, t30_53, t30_54, t30_57, t30_60, t30_61, t30_64, t30_65, t30_66, t30_67, t30_70, t30_73, t30_74, t30_75, t30_76, t30_79, t30_82, t30_83, t30_86, t30_89, t30_90, t30_93, t30_94, lk_s, hp_get, hp_set, uH_at, uH_ne, uH_upd, uH_swap, iZ_add, iZ_sub, iZ_mul, iZ_neg, iZ_lt, iZ_le, iZ_eq, iZ_div, iZ_of, ix_Z, gZ_map, gZ_mapI, gZ_map', le_0, le_s, sZ_map, sZ_len, bZ_0, bZ_inj, bZ_t, bZ_f, nr_i, nr_0, nr_1, nr_b, ft_i, ft_b, ft_0, ft_1, zl_0, zl_1, zl_61, zl_106, zl_126, l0, l1, h1, hF1, mm1, mm2, pO, -List.filter_filter, -List.getElem?_map, -List.getD_eq_getElem?_getD]
  · have Xn := m34n (N := N) (c := 126) (d + 31) hN h1 h2 hx (by omega) (by omega) (fun r' z => h ⟨r', z⟩)
    obtain ⟨w2, s1, s2, s3⟩ := hL.lq (N := N) (d + 31) (by omega) (b := 0) (Or.inl rfl)
    have es : sgn r = (0, r) := by
      cases r with
      | nil => rfl
      | cons c r2 =>
        unfold sgn
        dsimp only
        rw [if_neg (fun e => h ⟨r2, by rw [e]⟩)]
    rw [es]
    refine ⟨p, w2, s1.sub (by decide), s2, (s1 1 (by decide)).trans h1, hx, Or.inl rfl, fun res hres => ?_⟩
    obtain ⟨F7, hF1⟩ := hL.k7
    refine Gx.run 20 (Xn.and s3) (fun X mm => ?_) hres
    obtain ⟨mm1, mm2⟩ := mm
    simp (disch := first | (refine c1_id ?_; assumption) | (refine c1_st rfl ?_; repeat (first | assumption | refine c1_st rfl ?_)) | omega) [nx_l, nx_r, nx_n, x_st, x_push, x_bin, x_div, x_un, x_dup, x_pop, x_dup2, x_goto, x_ifeq, x_ifne, x_iflt, x_ifge, x_ifgt, x_ifle, x_iceq, x_icne, x_iclt, x_icge, x_icgt, x_icle, x_ifnull, x_ifnonnull, x_ldi, x_lda, x_sti, x_sta, x_iinc, x_gf, x_pf, x_ald, x_ast, x_aln, x_len, x_cl_, x_cv, x_cs, x_rc, x_r0, x_isT, x_oi, x_rv, x_ri, x_ra, Value.category, t30_0, t30_1, t30_2, t30_4, t30_7, t30_10, t30_11, t30_14, t30_17, t30_18, t30_20, t30_23, t30_26, t30_27, t30_28, t30_29, t30_32, t30_35, t30_36, t30_38, t30_41, t30_44, t30_45, t30_46, t30_47, t30_50, t30_53, t30_54, t30_57, t30_60, t30_61, t30_64, t30_65, t30_66, t30_67, t30_70, t30_73, t30_74, t30_75, t30_76, t30_79, t30_82, t30_83, t30_86, t30_89, t30_90, t30_93, t30_94, lk_s, hp_get, hp_set, uH_at, uH_ne, uH_upd, uH_swap, iZ_add, iZ_sub, iZ_mul, iZ_neg, iZ_lt, iZ_le, iZ_eq, iZ_div, iZ_of, ix_Z, gZ_map, gZ_mapI, gZ_map', le_0, le_s, sZ_map, sZ_len, bZ_0, bZ_inj, bZ_t, bZ_f, nr_i, nr_0, nr_1, nr_b, ft_i, ft_b, ft_0, ft_1, zl_0, zl_1, zl_61, zl_106, zl_126, l0, l1, h1, hF1, mm1, mm2, pO, -List.filter_filter, -List.getElem?_map, -List.getD_eq_getElem?_getD]
def R30 (d N : Nat) (Tx : List Int) (l : Int) (C : List (Int × List Int)) (r : List Int) (w w0 : Nat → xC) (lv : xL) (pc : Nat) : Prop :=
  (∃ (x : Int × List Int) (r1 : List Int) (p' : Int) (w' : Nat → xC), clL 30 r = some (x, r1) ∧ okL C x ∧ Fr ksJ w w' ∧ LA w' 7 (adL C x) ∧ w' 1 = pO p' l ∧ DX Tx l p' r1 ∧ Gx q_k30 (d + 32) pc (lv, [], hp w0 N) (some (.int (iZ 1)), hp w' N)) ∨
  ((∀ x r1, clL 30 r = some (x, r1) → ¬ okL C x) ∧ ∃ (p' : Int) (w' : Nat → xC), Fr ksJ w w' ∧ JK w' 7 ∧ w' 1 = pO p' l ∧ Gx q_k30 (d + 32) pc (lv, [], hp w0 N) (some (.int (iZ 0)), hp w' N))
theorem R30.back {d N : Nat} {w0 w1 : Nat → xC} {lv : xL} {pc pc' : Nat} (h : R30 d N Tx l C r w w1 lv pc') (g : ∀ res, Gx q_k30 (d + 32) pc' (lv, [], hp w1 N) res → Gx q_k30 (d + 32) pc (lv, [], hp w0 N) res) : R30 d N Tx l C r w w0 lv pc := by
  rcases h with ⟨x, r1, p', w', i1, i2, i3, i4, i5, i6, i7⟩ | ⟨i1, p', w', i2, i3, i4, i5⟩
  · exact Or.inl ⟨x, r1, p', w', i1, i2, i3, i4, i5, i6, g _ i7⟩
  · exact Or.inr ⟨i1, p', w', i2, i3, i4, g _ i5⟩
/-- the literal is closed: from pc, which is 53 or 82 -/
theorem E30 (d : Nat) (hN : 53 ≤ N) {w0 : Nat → xC} {r1 : List Int} (hL : LQ w0 7 C b t) (hb : b = 0 ∨ b = 1) (h1 : w0 1 = pO p l) (hx : DX Tx l p r1) (F : Fr ksJ w w0) (lv : xL) (l1 : x_lk lv 1 = some (.ref 10)) (pc : Nat) (hpc : pc = 53 ∨ pc = 82) (e : clL 30 r = some ((b, t), r1)) : R30 d N Tx l C r w w0 lv pc := by
  have t40 : t.length ≤ 40 := by
    obtain ⟨_, _, _, _, _, _, _, _, _, _, _, z, _⟩ := hL
    exact z
  obtain ⟨q1, q2⟩ := hL.close (N := N) (d + 29) (by omega) hb
  obtain ⟨F7, hF7⟩ := hL.k7
  by_cases hk : (b, t) ∈ C ∨ (C.length + 1 ≤ 6 ∧ (flt C).length + t.length ≤ 40)
  · obtain ⟨w', s1, s2, s3⟩ := q1 hk
    refine Or.inl ⟨(b, t), r1, p, w', e, ⟨t40, hk⟩, F.tr (s1.sub (by decide)), s2, (s1 1 (by decide)).trans h1, hx, ?_⟩
    refine Gx.fin 20 s3 (fun X mm => ?_)
    rcases hpc with rfl | rfl
    · simp (disch := first | (refine c1_id ?_; assumption) | (refine c1_st rfl ?_; repeat (first | assumption | refine c1_st rfl ?_)) | omega) [nx_l, nx_r, nx_n, x_st, x_push, x_bin, x_div, x_un, x_dup, x_pop, x_dup2, x_goto, x_ifeq, x_ifne, x_iflt, x_ifge, x_ifgt, x_ifle, x_iceq, x_icne, x_iclt, x_icge, x_icgt, x_icle, x_ifnull, x_ifnonnull, x_ldi, x_lda, x_sti, x_sta, x_iinc, x_gf, x_pf, x_ald, x_ast, x_aln, x_len, x_cl_, x_cv, x_cs, x_rc, x_r0, x_isT, x_oi, x_rv, x_ri, x_ra, Value.category, t30_0, t30_1, t30_2, t30_4, t30_7, t30_10, t30_11, t30_14, t30_17, t30_18, t30_20, t30_23, t30_26, t30_27, t30_28, t30_29, t30_32, t30_35, t30_36, t30_38, t30_41, t30_44, t30_45, t30_46, t30_47, t30_50, t30_53, t30_54, t30_57, t30_60, t30_61, t30_64, t30_65, t30_66, t30_67, t30_70, t30_73, t30_74, t30_75, t30_76, t30_79, t30_82, t30_83, t30_86, t30_89, t30_90, t30_93, t30_94, lk_s, hp_get, hp_set, uH_at, uH_ne, uH_upd, uH_swap, iZ_add, iZ_sub, iZ_mul, iZ_neg, iZ_lt, iZ_le, iZ_eq, iZ_div, iZ_of, ix_Z, gZ_map, gZ_mapI, gZ_map', le_0, le_s, sZ_map, sZ_len, bZ_0, bZ_inj, bZ_t, bZ_f, nr_i, nr_0, nr_1, nr_b, ft_i, ft_b, ft_0, ft_1, zl_0, zl_1, zl_61, zl_106, zl_126, l1, hF7, mm, -List.filter_filter, -List.getElem?_map, -List.getD_eq_getElem?_getD]
    · simp (disch := first | (refine c1_id ?_; assumption) | (refine c1_st rfl ?_; repeat (first | assumption | refine c1_st rfl ?_)) | omega) [nx_l, nx_r, nx_n, x_st, x_push, x_bin, x_div, x_un, x_dup, x_pop, x_dup2, x_goto, x_ifeq, x_ifne, x_iflt, x_ifge, x_ifgt, x_ifle, x_iceq, x_icne, x_iclt, x_icge, x_icgt, x_icle, x_ifnull, x_ifnonnull, x_ldi, x_lda, x_sti, x_sta, x_iinc, x_gf, x_pf, x_ald, x_ast, x_aln, x_len, x_cl_, x_cv, x_cs, x_rc, x_r0, x_isT, x_oi, x_rv, x_ri, x_ra, Value.category, t30_0, t30_1, t30_2, t30_4, t30_7, t30_10, t30_11, t30_14, t30_17, t30_18, t30_20, t30_23, t30_26, t30_27, t30_28, t30_29, t30_32, t30_35, t30_36, t30_38, t30_41, t30_44, t30_45, t30_46, t30_47, t30_50, t30_53, t30_54, t30_57, t30_60, t30_61, t30_64, t30_65, t30_66, t30_67, t30_70, t30_73, t30_74, t30_75, t30_76, t30_79, t30_82, t30_83, t30_86, t30_89, t30_90, t30_93, t30_94, lk_s, hp_get, hp_set, uH_at, uH_ne, uH_upd, uH_swap, iZ_add, iZ_sub, iZ_mul, iZ_neg, iZ_lt, iZ_le, iZ_eq, iZ_div, iZ_of, ix_Z, gZ_map, gZ_mapI, gZ_map', le_0, le_s, sZ_map, sZ_len, bZ_0, bZ_inj, bZ_t, bZ_f, nr_i, nr_0, nr_1, nr_b, ft_i, ft_b, ft_0, ft_1, zl_0, zl_1, zl_61, zl_106, zl_126, l1, hF7, mm, -List.filter_filter, -List.getElem?_map, -List.getD_eq_getElem?_getD]
  · obtain ⟨w', s1, s2, s3⟩ := q2 hk
    refine Or.inr ⟨fun x r2 z => ?_, p, w', F.tr (s1.sub (by decide)), s2, (s1 1 (by decide)).trans h1, ?_⟩
    · rw [e] at z
      cases z
      exact fun z => hk z.2
    · refine Gx.fin 20 s3 (fun X mm => ?_)
      rcases hpc with rfl | rfl
      · simp (disch := first | (refine c1_id ?_; assumption) | (refine c1_st rfl ?_; repeat (first | assumption | refine c1_st rfl ?_)) | omega) [nx_l, nx_r, nx_n, x_st, x_push, x_bin, x_div, x_un, x_dup, x_pop, x_dup2, x_goto, x_ifeq, x_ifne, x_iflt, x_ifge, x_ifgt, x_ifle, x_iceq, x_icne, x_iclt, x_icge, x_icgt, x_icle, x_ifnull, x_ifnonnull, x_ldi, x_lda, x_sti, x_sta, x_iinc, x_gf, x_pf, x_ald, x_ast, x_aln, x_len, x_cl_, x_cv, x_cs, x_rc, x_r0, x_isT, x_oi, x_rv, x_ri, x_ra, Value.category, t30_0, t30_1, t30_2, t30_4, t30_7, t30_10, t30_11, t30_14, t30_17, t30_18, t30_20, t30_23, t30_26, t30_27, t30_28, t30_29, t30_32, t30_35, t30_36, t30_38, t30_41, t30_44, t30_45, t30_46, t30_47, t30_50, t30_53, t30_54, t30_57, t30_60, t30_61, t30_64, t30_65, t30_66, t30_67, t30_70, t30_73, t30_74, t30_75, t30_76, t30_79, t30_82, t30_83, t30_86, t30_89, t30_90, t30_93, t30_94, lk_s, hp_get, hp_set, uH_at, uH_ne, uH_upd, uH_swap, iZ_add, iZ_sub, iZ_mul, iZ_neg, iZ_lt, iZ_le, iZ_eq, iZ_div, iZ_of, ix_Z, gZ_map, gZ_mapI, gZ_map', le_0, le_s, sZ_map, sZ_len, bZ_0, bZ_inj, bZ_t, bZ_f, nr_i, nr_0, nr_1, nr_b, ft_i, ft_b, ft_0, ft_1, zl_0, zl_1, zl_61, zl_106, zl_126, l1, hF7, mm, -List.filter_filter, -List.getElem?_map, -List.getD_eq_getElem?_getD]
      · simp (disch := first | (refine c1_id ?_; assumption) | (refine c1_st rfl ?_; repeat (first | assumption | refine c1_st rfl ?_)) | omega) [nx_l, nx_r, nx_n, x_st, x_push, x_bin, x_div, x_un, x_dup, x_pop, x_dup2, x_goto, x_ifeq, x_ifne, x_iflt, x_ifge, x_ifgt, x_ifle, x_iceq, x_icne, x_iclt, x_icge, x_icgt, x_icle, x_ifnull, x_ifnonnull, x_ldi, x_lda, x_sti, x_sta, x_iinc, x_gf, x_pf, x_ald, x_ast, x_aln, x_len, x_cl_, x_cv, x_cs, x_rc, x_r0, x_isT, x_oi, x_rv, x_ri, x_ra, Value.category, t30_0, t30_1, t30_2, t30_4, t30_7, t30_10, t30_11, t30_14, t30_17, t30_18, t30_20, t30_23, t30_26, t30_27, t30_28, t30_29, t30_32, t30_35, t30_36, t30_38, t30_41, t30_44, t30_45, t30_46, t30_47, t30_50, t30_53, t30_54, t30_57, t30_60, t30_61, t30_64, t30_65, t30_66, t30_67, t30_70, t30_73, t30_74, t30_75, t30_76, t30_79, t30_82, t30_83, t30_86, t30_89, t30_90, t30_93, t30_94, lk_s, hp_get, hp_set, uH_at, uH_ne, uH_upd, uH_swap, iZ_add, iZ_sub, iZ_mul, iZ_neg, iZ_lt, iZ_le, iZ_eq, iZ_div, iZ_of, ix_Z, gZ_map, gZ_mapI, gZ_map', le_0, le_s, sZ_map, sZ_len, bZ_0, bZ_inj, bZ_t, bZ_f, nr_i, nr_0, nr_1, nr_b, ft_i, ft_b, ft_0, ft_1, zl_0, zl_1, zl_61, zl_106, zl_126, l1, hF7, mm, -List.filter_filter, -List.getElem?_map, -List.getD_eq_getElem?_getD]
set_option maxHeartbeats 1000000 in
theorem m30 (d : Nat) (hN : 53 ≤ N) (hL : LA w 7 C) (h1 : w 1 = pO p l) (h2 : w 2 = cI 2 Tx) (hx : DX Tx l p r) :
    (∃ (x : Int × List Int) (r1 : List Int) (p' : Int) (w' : Nat → xC), clL 30 r = some (x, r1) ∧ okL C x ∧ Fr ksJ w w' ∧ LA w' 7 (adL C x) ∧ w' 1 = pO p' l ∧ DX Tx l p' r1 ∧ Xc (d + 33) 30 [.ref 4, .ref 10] (hp w N) (some (.int (iZ 1)), hp w' N)) ∨
    ((∀ x r1, clL 30 r = some (x, r1) → ¬ okL C x) ∧ ∃ (p' : Int) (w' : Nat → xC), Fr ksJ w w' ∧ JK w' 7 ∧ w' 1 = pO p' l ∧ Xc (d + 33) 30 [.ref 4, .ref 10] (hp w N) (some (.int (iZ 0)), hp w' N)) := by
  have key : R30 d N Tx l C r w w (lv_args 0 [.ref 4, .ref 10]) 0 := by
    have hc : c1 (lv_args 0 [.ref 4, .ref 10]) := by simp [c1, lv_args, Value.category]
    have l0 : x_lk (lv_args 0 [.ref 4, .ref 10]) 0 = some (.ref 4) := rfl
    have l1 : x_lk (lv_args 0 [.ref 4, .ref 10]) 1 = some (.ref 10) := rfl
    generalize lv_args 0 [.ref 4, .ref 10] = lv at hc l0 l1 ⊢
    obtain ⟨p2, w2, F2, L2, e12, x2, hb, g10⟩ := P30 (N := N) d hN hL h1 h2 hx lv hc l0 l1
    refine R30.back ?_ g10
    have e22 : w2 2 = cI 2 Tx := (F2 2 (by decide)).trans h2
    obtain ⟨F7, hF7⟩ := L2.k7
    have Xe := m31 (N := N) (d + 31) hN e12 e22 x2
    have eL : ∀ o, clM 30 (sgn r).2 = o → clL 30 r = match o with
        | none => none
        | some (t, r1) => some (((sgn r).1, t), r1) := fun o e => by
      unfold clL
      rw [e]
    cases hE : eqA (sgn r).2 with
    | true =>
      rw [hE, bZ_t] at Xe
      have eM : clM 30 (sgn r).2 = (match rdT 30 (sgn r).2 with
          | none => none
          | some (_, []) => none
          | some (t, c :: r1) => if c = 61 then (match rdT 30 r1 with
            | none => none
            | some (u, r2) => some (99 :: (t ++ u), r2)) else none) := by
        unfold clM
        rw [if_pos hE]
      obtain ⟨w3, s1, s2, s3⟩ := L2.put (N := N) (d + 31) (by omega) 99 ⟨by omega, by omega, fun z => by omega⟩ (by simp)
      have s3 : Xc (d + 32) 16 [.ref 10, .int (iZ 106)] (hp w2 N) (some (.int (iZ 1)), hp w3 N) := s3
      rw [List.nil_append] at s2
      have F3 : Fr ksJ w w3 := F2.tr (s1.sub (by decide))
      have e13 : w3 1 = pO p2 l := (s1 1 (by decide)).trans e12
      have e23 : w3 2 = cI 2 Tx := (s1 2 (by decide)).trans e22
      have g26 : ∀ res, Gx q_k30 (d + 32) 26 (lv, [], hp w3 N) res → Gx q_k30 (d + 32) 10 (lv, [], hp w2 N) res := fun res hres => by
        refine Gx.run 20 (Xe.and s3) (fun X mm => ?_) hres
        obtain ⟨mm1, mm2⟩ := mm
        simp (disch := first | (refine c1_id ?_; assumption) | (refine c1_st rfl ?_; repeat (first | assumption | refine c1_st rfl ?_)) | omega) [nx_l, nx_r, nx_n, x_st, x_push, x_bin, x_div, x_un, x_dup, x_pop, x_dup2, x_goto, x_ifeq, x_ifne, x_iflt, x_ifge, x_ifgt, x_ifle, x_iceq, x_icne, x_iclt, x_icge, x_icgt, x_icle, x_ifnull, x_ifnonnull, x_ldi, x_lda, x_sti, x_sta, x_iinc, x_gf, x_pf, x_ald, x_ast, x_aln, x_len, x_cl_, x_cv, x_cs, x_rc, x_r0, x_isT, x_oi, x_rv, x_ri, x_ra, Value.category, t30_0, t30_1, t30_2, t30_4, t30_7, t30_10, t30_11, t30_14, t30_17, t30_18, t30_20, t30_23, t30_26, t30_27, t30_28, t30_29, t30_32, t30_35, t30_36, t30_38, t30_41, t30_44, t30_45, t30_46, t30_47, t30_50, t30_53, t30_54, t30_57, t30_60, t30_61, t30_64, t30_65, t30_66, t30_67, t30_70, t30_73, t30_74, t30_75, t30_76, t30_79, t30_82, t30_83, t30_86, t30_89, t30_90, t30_93, t30_94, lk_s, hp_get, hp_set, uH_at, uH_ne, uH_upd, uH_swap, iZ_add, iZ_sub, iZ_mul, iZ_neg, iZ_lt, iZ_le, iZ_eq, iZ_div, iZ_of, ix_Z, gZ_map, gZ_mapI, gZ_map', le_0, le_s, sZ_map, sZ_len, bZ_0, bZ_inj, bZ_t, bZ_f, nr_i, nr_0, nr_1, nr_b, ft_i, ft_b, ft_0, ft_1, zl_0, zl_1, zl_61, zl_106, zl_126, l0, l1, e12, hF7, mm1, mm2, pO, -List.filter_filter, -List.getElem?_map, -List.getD_eq_getElem?_getD]
      refine R30.back ?_ g26
      rcases m33 (N := N) d hN s2 e13 e23 x2 with ⟨u, r1, p4, w4, i1, i2, i3, i4, i5, i6, i7⟩ | ⟨i1, p4, w4, i2, i3, i4, i5⟩
      · have F4 : Fr ksJ w w4 := F3.tr (i3.sub (by decide))
        have e24 : w4 2 = cI 2 Tx := (i3 2 (by decide)).trans e23
        rw [i1] at eM
        by_cases hq : ∃ r2, r1 = 61 :: r2
        · obtain ⟨r2, rfl⟩ := hq
          dsimp only at eM
          rw [if_pos rfl] at eM
          have Xt := m34y (N := N) (d + 31) hN i5 e24 i6
          obtain ⟨w5, hw5⟩ : ∃ w5, w5 = uH w4 1 (pO (p4 + 1) l) := ⟨_, rfl⟩
          rw [← hw5] at Xt
          have L5 : LQ w5 7 C (sgn r).1 ([99] ++ u) := i4.mv (fun j j0 _ => by rw [hw5, uH_ne (by omega)])
          have F5 : Fr ksJ w w5 := F4.tr (by rw [hw5]; exact (Fr.rf _ _).up (by decide))
          have e15 : w5 1 = pO (p4 + 1) l := by rw [hw5, uH_at]
          have e25 : w5 2 = cI 2 Tx := by rw [hw5, uH_ne (by decide)]; exact e24
          have g44 : ∀ res, Gx q_k30 (d + 32) 44 (lv, [], hp w5 N) res → Gx q_k30 (d + 32) 26 (lv, [], hp w3 N) res := fun res hres => by
            refine Gx.run 20 (i7.and Xt) (fun X mm => ?_) hres
            obtain ⟨mm1, mm2⟩ := mm
            simp (disch := first | (refine c1_id ?_; assumption) | (refine c1_st rfl ?_; repeat (first | assumption | refine c1_st rfl ?_)) | omega) [nx_l, nx_r, nx_n, x_st, x_push, x_bin, x_div, x_un, x_dup, x_pop, x_dup2, x_goto, x_ifeq, x_ifne, x_iflt, x_ifge, x_ifgt, x_ifle, x_iceq, x_icne, x_iclt, x_icge, x_icgt, x_icle, x_ifnull, x_ifnonnull, x_ldi, x_lda, x_sti, x_sta, x_iinc, x_gf, x_pf, x_ald, x_ast, x_aln, x_len, x_cl_, x_cv, x_cs, x_rc, x_r0, x_isT, x_oi, x_rv, x_ri, x_ra, Value.category, t30_0, t30_1, t30_2, t30_4, t30_7, t30_10, t30_11, t30_14, t30_17, t30_18, t30_20, t30_23, t30_26, t30_27, t30_28, t30_29, t30_32, t30_35, t30_36, t30_38, t30_41, t30_44, t30_45, t30_46, t30_47, t30_50, t30_53, t30_54, t30_57, t30_60, t30_61, t30_64, t30_65, t30_66, t30_67, t30_70, t30_73, t30_74, t30_75, t30_76, t30_79, t30_82, t30_83, t30_86, t30_89, t30_90, t30_93, t30_94, lk_s, hp_get, hp_set, uH_at, uH_ne, uH_upd, uH_swap, iZ_add, iZ_sub, iZ_mul, iZ_neg, iZ_lt, iZ_le, iZ_eq, iZ_div, iZ_of, ix_Z, gZ_map, gZ_mapI, gZ_map', le_0, le_s, sZ_map, sZ_len, bZ_0, bZ_inj, bZ_t, bZ_f, nr_i, nr_0, nr_1, nr_b, ft_i, ft_b, ft_0, ft_1, zl_0, zl_1, zl_61, zl_106, zl_126, l0, l1, e13, i5, mm1, mm2, pO, -List.filter_filter, -List.getElem?_map, -List.getD_eq_getElem?_getD]
          refine R30.back ?_ g44
          rcases m33 (N := N) d hN L5 e15 e25 i6.tl with ⟨u2, r3, p6, w6, j1, j2, j3, j4, j5, j6, j7⟩ | ⟨j1, p6, w6, j2, j3, j4, j5⟩
          · rw [j1] at eM
            have g53 : ∀ res, Gx q_k30 (d + 32) 53 (lv, [], hp w6 N) res → Gx q_k30 (d + 32) 44 (lv, [], hp w5 N) res := fun res hres => by
              refine Gx.run 20 j7 (fun X mm => ?_) hres
              simp (disch := first | (refine c1_id ?_; assumption) | (refine c1_st rfl ?_; repeat (first | assumption | refine c1_st rfl ?_)) | omega) [nx_l, nx_r, nx_n, x_st, x_push, x_bin, x_div, x_un, x_dup, x_pop, x_dup2, x_goto, x_ifeq, x_ifne, x_iflt, x_ifge, x_ifgt, x_ifle, x_iceq, x_icne, x_iclt, x_icge, x_icgt, x_icle, x_ifnull, x_ifnonnull, x_ldi, x_lda, x_sti, x_sta, x_iinc, x_gf, x_pf, x_ald, x_ast, x_aln, x_len, x_cl_, x_cv, x_cs, x_rc, x_r0, x_isT, x_oi, x_rv, x_ri, x_ra, Value.category, t30_0, t30_1, t30_2, t30_4, t30_7, t30_10, t30_11, t30_14, t30_17, t30_18, t30_20, t30_23, t30_26, t30_27, t30_28, t30_29, t30_32, t30_35, t30_36, t30_38, t30_41, t30_44, t30_45, t30_46, t30_47, t30_50, t30_53, t30_54, t30_57, t30_60, t30_61, t30_64, t30_65, t30_66, t30_67, t30_70, t30_73, t30_74, t30_75, t30_76, t30_79, t30_82, t30_83, t30_86, t30_89, t30_90, t30_93, t30_94, lk_s, hp_get, hp_set, uH_at, uH_ne, uH_upd, uH_swap, iZ_add, iZ_sub, iZ_mul, iZ_neg, iZ_lt, iZ_le, iZ_eq, iZ_div, iZ_of, ix_Z, gZ_map, gZ_mapI, gZ_map', le_0, le_s, sZ_map, sZ_len, bZ_0, bZ_inj, bZ_t, bZ_f, nr_i, nr_0, nr_1, nr_b, ft_i, ft_b, ft_0, ft_1, zl_0, zl_1, zl_61, zl_106, zl_126, l0, l1, e15, mm, pO, -List.filter_filter, -List.getElem?_map, -List.getD_eq_getElem?_getD]
            refine R30.back ?_ g53
            exact E30 (p := p6) d hN j4 hb j5 j6 (F5.tr (j3.sub (by decide))) lv l1 53 (Or.inl rfl) (eL _ eM)
          · refine Or.inr ⟨fun x r3 z => ?_, p6, w6, F5.tr (j2.sub (by decide)), j3, j4, Gx.fin 20 j5 (fun X mm => ?_)⟩
            · have eq := eL _ eM
              cases hA : rdT 30 r2 with
              | none =>
                rw [hA] at eq
                rw [eq] at z
                cases z
              | some v =>
                obtain ⟨u2, r4⟩ := v
                have h40 := j1 u2 r4 hA
                rw [hA] at eq
                rw [eq] at z
                cases z
                intro hok
                have := hok.1
                simp only [List.length_cons, List.length_append, List.length_nil] at this h40
                omega
            · simp (disch := first | (refine c1_id ?_; assumption) | (refine c1_st rfl ?_; repeat (first | assumption | refine c1_st rfl ?_)) | omega) [nx_l, nx_r, nx_n, x_st, x_push, x_bin, x_div, x_un, x_dup, x_pop, x_dup2, x_goto, x_ifeq, x_ifne, x_iflt, x_ifge, x_ifgt, x_ifle, x_iceq, x_icne, x_iclt, x_icge, x_icgt, x_icle, x_ifnull, x_ifnonnull, x_ldi, x_lda, x_sti, x_sta, x_iinc, x_gf, x_pf, x_ald, x_ast, x_aln, x_len, x_cl_, x_cv, x_cs, x_rc, x_r0, x_isT, x_oi, x_rv, x_ri, x_ra, Value.category, t30_0, t30_1, t30_2, t30_4, t30_7, t30_10, t30_11, t30_14, t30_17, t30_18, t30_20, t30_23, t30_26, t30_27, t30_28, t30_29, t30_32, t30_35, t30_36, t30_38, t30_41, t30_44, t30_45, t30_46, t30_47, t30_50, t30_53, t30_54, t30_57, t30_60, t30_61, t30_64, t30_65, t30_66, t30_67, t30_70, t30_73, t30_74, t30_75, t30_76, t30_79, t30_82, t30_83, t30_86, t30_89, t30_90, t30_93, t30_94, lk_s, hp_get, hp_set, uH_at, uH_ne, uH_upd, uH_swap, iZ_add, iZ_sub, iZ_mul, iZ_neg, iZ_lt, iZ_le, iZ_eq, iZ_div, iZ_of, ix_Z, gZ_map, gZ_mapI, gZ_map', le_0, le_s, sZ_map, sZ_len, bZ_0, bZ_inj, bZ_t, bZ_f, nr_i, nr_0, nr_1, nr_b, ft_i, ft_b, ft_0, ft_1, zl_0, zl_1, zl_61, zl_106, zl_126, l0, l1, e15, mm, pO, -List.filter_filter, -List.getElem?_map, -List.getD_eq_getElem?_getD]
        · have Xn := m34n (N := N) (c := 61) (d + 31) hN i5 e24 i6 (by omega) (by omega) (fun r' z => hq ⟨r', z⟩)
          refine Or.inr ⟨fun x r3 z => ?_, p4, w4, F4, i4.jk, i5, Gx.fin 20 (i7.and Xn) (fun X mm => ?_)⟩
          · have en : clM 30 (sgn r).2 = none := by
              rw [eM]
              cases r1 with
              | nil => rfl
              | cons c r2 =>
                dsimp only
                rw [if_neg (fun e => hq ⟨r2, by rw [e]⟩)]
            have eq := eL _ en
            rw [eq] at z
            cases z
          · obtain ⟨mm1, mm2⟩ := mm
            simp (disch := first | (refine c1_id ?_; assumption) | (refine c1_st rfl ?_; repeat (first | assumption | refine c1_st rfl ?_)) | omega) [nx_l, nx_r, nx_n, x_st, x_push, x_bin, x_div, x_un, x_dup, x_pop, x_dup2, x_goto, x_ifeq, x_ifne, x_iflt, x_ifge, x_ifgt, x_ifle, x_iceq, x_icne, x_iclt, x_icge, x_icgt, x_icle, x_ifnull, x_ifnonnull, x_ldi, x_lda, x_sti, x_sta, x_iinc, x_gf, x_pf, x_ald, x_ast, x_aln, x_len, x_cl_, x_cv, x_cs, x_rc, x_r0, x_isT, x_oi, x_rv, x_ri, x_ra, Value.category, t30_0, t30_1, t30_2, t30_4, t30_7, t30_10, t30_11, t30_14, t30_17, t30_18, t30_20, t30_23, t30_26, t30_27, t30_28, t30_29, t30_32, t30_35, t30_36, t30_38, t30_41, t30_44, t30_45, t30_46, t30_47, t30_50, t30_53, t30_54, t30_57, t30_60, t30_61, t30_64, t30_65, t30_66, t30_67, t30_70, t30_73, t30_74, t30_75, t30_76, t30_79, t30_82, t30_83, t30_86, t30_89, t30_90, t30_93, t30_94, lk_s, hp_get, hp_set, uH_at, uH_ne, uH_upd, uH_swap, iZ_add, iZ_sub, iZ_mul, iZ_neg, iZ_lt, iZ_le, iZ_eq, iZ_div, iZ_of, ix_Z, gZ_map, gZ_mapI, gZ_map', le_0, le_s, sZ_map, sZ_len, bZ_0, bZ_inj, bZ_t, bZ_f, nr_i, nr_0, nr_1, nr_b, ft_i, ft_b, ft_0, ft_1, zl_0, zl_1, zl_61, zl_106, zl_126, l0, l1, e13, i5, mm1, mm2, pO, -List.filter_filter, -List.getElem?_map, -List.getD_eq_getElem?_getD]
      · refine Or.inr ⟨fun x r3 z => ?_, p4, w4, F3.tr (i2.sub (by decide)), i3, i4, Gx.fin 20 i5 (fun X mm => ?_)⟩
        · have eq := eL _ eM
          cases hA : rdT 30 (sgn r).2 with
          | none =>
            rw [hA] at eq
            rw [eq] at z
            cases z
          | some v =>
            obtain ⟨u, r1⟩ := v
            have h40 := i1 u r1 hA
            rw [hA] at eq
            simp only [List.length_cons, List.length_nil] at h40
            cases r1 with
            | nil =>
              rw [eq] at z
              cases z
            | cons c r2 =>
              dsimp only at eq
              by_cases h61 : c = 61
              · rw [if_pos h61] at eq
                cases hB : rdT 30 r2 with
                | none =>
                  rw [hB] at eq
                  rw [eq] at z
                  cases z
                | some v2 =>
                  obtain ⟨u2, r4⟩ := v2
                  rw [hB] at eq
                  rw [eq] at z
                  cases z
                  intro hok
                  have := hok.1
                  simp only [List.length_cons, List.length_append] at this
                  omega
              · rw [if_neg h61] at eq
                rw [eq] at z
                cases z
        · simp (disch := first | (refine c1_id ?_; assumption) | (refine c1_st rfl ?_; repeat (first | assumption | refine c1_st rfl ?_)) | omega) [nx_l, nx_r, nx_n, x_st, x_push, x_bin, x_div, x_un, x_dup, x_pop, x_dup2, x_goto, x_ifeq, x_ifne, x_iflt, x_ifge, x_ifgt, x_ifle, x_iceq, x_icne, x_iclt, x_icge, x_icgt, x_icle, x_ifnull, x_ifnonnull, x_ldi, x_lda, x_sti, x_sta, x_iinc, x_gf, x_pf, x_ald, x_ast, x_aln, x_len, x_cl_, x_cv, x_cs, x_rc, x_r0, x_isT, x_oi, x_rv, x_ri, x_ra, Value.category, t30_0, t30_1, t30_2, t30_4, t30_7, t30_10, t30_11, t30_14, t30_17, t30_18, t30_20, t30_23, t30_26, t30_27, t30_28, t30_29, t30_32, t30_35, t30_36, t30_38, t30_41, t30_44, t30_45, t30_46, t30_47, t30_50, t30_53, t30_54, t30_57, t30_60, t30_61, t30_64, t30_65, t30_66, t30_67, t30_70, t30_73, t30_74, t30_75, t30_76, t30_79, t30_82, t30_83, t30_86, t30_89, t30_90, t30_93, t30_94, lk_s, hp_get, hp_set, uH_at, uH_ne, uH_upd, uH_swap, iZ_add, iZ_sub, iZ_mul, iZ_neg, iZ_lt, iZ_le, iZ_eq, iZ_div, iZ_of, ix_Z, gZ_map, gZ_mapI, gZ_map', le_0, le_s, sZ_map, sZ_len, bZ_0, bZ_inj, bZ_t, bZ_f, nr_i, nr_0, nr_1, nr_b, ft_i, ft_b, ft_0, ft_1, zl_0, zl_1, zl_61, zl_106, zl_126, l0, l1, e13, mm, pO, -List.filter_filter, -List.getElem?_map, -List.getD_eq_getElem?_getD]
    | false =>
      rw [hE, bZ_f] at Xe
      have Xv := m32 (N := N) (d + 31) hN e12 e22 x2
      cases hU : hdU (sgn r).2 with
      | true =>
        rw [hU, bZ_t] at Xv
        have eM : clM 30 (sgn r).2 = none := by
          unfold clM
          rw [hE, if_neg (by decide), if_pos hU]
        refine Or.inr ⟨fun x r3 z => ?_, p2, w2, F2, L2.jk, e12, Gx.fin 20 (Xe.and Xv) (fun X mm => ?_)⟩
        · have eq := eL _ eM
          rw [eq] at z
          cases z
        · obtain ⟨mm1, mm2⟩ := mm
          simp (disch := first | (refine c1_id ?_; assumption) | (refine c1_st rfl ?_; repeat (first | assumption | refine c1_st rfl ?_)) | omega) [nx_l, nx_r, nx_n, x_st, x_push, x_bin, x_div, x_un, x_dup, x_pop, x_dup2, x_goto, x_ifeq, x_ifne, x_iflt, x_ifge, x_ifgt, x_ifle, x_iceq, x_icne, x_iclt, x_icge, x_icgt, x_icle, x_ifnull, x_ifnonnull, x_ldi, x_lda, x_sti, x_sta, x_iinc, x_gf, x_pf, x_ald, x_ast, x_aln, x_len, x_cl_, x_cv, x_cs, x_rc, x_r0, x_isT, x_oi, x_rv, x_ri, x_ra, Value.category, t30_0, t30_1, t30_2, t30_4, t30_7, t30_10, t30_11, t30_14, t30_17, t30_18, t30_20, t30_23, t30_26, t30_27, t30_28, t30_29, t30_32, t30_35, t30_36, t30_38, t30_41, t30_44, t30_45, t30_46, t30_47, t30_50, t30_53, t30_54, t30_57, t30_60, t30_61, t30_64, t30_65, t30_66, t30_67, t30_70, t30_73, t30_74, t30_75, t30_76, t30_79, t30_82, t30_83, t30_86, t30_89, t30_90, t30_93, t30_94, lk_s, hp_get, hp_set, uH_at, uH_ne, uH_upd, uH_swap, iZ_add, iZ_sub, iZ_mul, iZ_neg, iZ_lt, iZ_le, iZ_eq, iZ_div, iZ_of, ix_Z, gZ_map, gZ_mapI, gZ_map', le_0, le_s, sZ_map, sZ_len, bZ_0, bZ_inj, bZ_t, bZ_f, nr_i, nr_0, nr_1, nr_b, ft_i, ft_b, ft_0, ft_1, zl_0, zl_1, zl_61, zl_106, zl_126, l0, l1, e12, mm1, mm2, pO, -List.filter_filter, -List.getElem?_map, -List.getD_eq_getElem?_getD]
      | false =>
        rw [hU, bZ_f] at Xv
        have eM : clM 30 (sgn r).2 = rdT 30 (sgn r).2 := by
          unfold clM
          rw [hE, if_neg (by decide), hU, if_neg (by decide)]
        have g73 : ∀ res, Gx q_k30 (d + 32) 73 (lv, [], hp w2 N) res → Gx q_k30 (d + 32) 10 (lv, [], hp w2 N) res := fun res hres => by
          refine Gx.run 20 (Xe.and Xv) (fun X mm => ?_) hres
          obtain ⟨mm1, mm2⟩ := mm
          simp (disch := first | (refine c1_id ?_; assumption) | (refine c1_st rfl ?_; repeat (first | assumption | refine c1_st rfl ?_)) | omega) [nx_l, nx_r, nx_n, x_st, x_push, x_bin, x_div, x_un, x_dup, x_pop, x_dup2, x_goto, x_ifeq, x_ifne, x_iflt, x_ifge, x_ifgt, x_ifle, x_iceq, x_icne, x_iclt, x_icge, x_icgt, x_icle, x_ifnull, x_ifnonnull, x_ldi, x_lda, x_sti, x_sta, x_iinc, x_gf, x_pf, x_ald, x_ast, x_aln, x_len, x_cl_, x_cv, x_cs, x_rc, x_r0, x_isT, x_oi, x_rv, x_ri, x_ra, Value.category, t30_0, t30_1, t30_2, t30_4, t30_7, t30_10, t30_11, t30_14, t30_17, t30_18, t30_20, t30_23, t30_26, t30_27, t30_28, t30_29, t30_32, t30_35, t30_36, t30_38, t30_41, t30_44, t30_45, t30_46, t30_47, t30_50, t30_53, t30_54, t30_57, t30_60, t30_61, t30_64, t30_65, t30_66, t30_67, t30_70, t30_73, t30_74, t30_75, t30_76, t30_79, t30_82, t30_83, t30_86, t30_89, t30_90, t30_93, t30_94, lk_s, hp_get, hp_set, uH_at, uH_ne, uH_upd, uH_swap, iZ_add, iZ_sub, iZ_mul, iZ_neg, iZ_lt, iZ_le, iZ_eq, iZ_div, iZ_of, ix_Z, gZ_map, gZ_mapI, gZ_map', le_0, le_s, sZ_map, sZ_len, bZ_0, bZ_inj, bZ_t, bZ_f, nr_i, nr_0, nr_1, nr_b, ft_i, ft_b, ft_0, ft_1, zl_0, zl_1, zl_61, zl_106, zl_126, l0, l1, e12, mm1, mm2, pO, -List.filter_filter, -List.getElem?_map, -List.getD_eq_getElem?_getD]
        refine R30.back ?_ g73
        rcases m33 (N := N) d hN L2 e12 e22 x2 with ⟨u, r1, p4, w4, i1, i2, i3, i4, i5, i6, i7⟩ | ⟨i1, p4, w4, i2, i3, i4, i5⟩
        · rw [List.nil_append] at i4
          rw [i1] at eM
          have g82 : ∀ res, Gx q_k30 (d + 32) 82 (lv, [], hp w4 N) res → Gx q_k30 (d + 32) 73 (lv, [], hp w2 N) res := fun res hres => by
            refine Gx.run 20 i7 (fun X mm => ?_) hres
            simp (disch := first | (refine c1_id ?_; assumption) | (refine c1_st rfl ?_; repeat (first | assumption | refine c1_st rfl ?_)) | omega) [nx_l, nx_r, nx_n, x_st, x_push, x_bin, x_div, x_un, x_dup, x_pop, x_dup2, x_goto, x_ifeq, x_ifne, x_iflt, x_ifge, x_ifgt, x_ifle, x_iceq, x_icne, x_iclt, x_icge, x_icgt, x_icle, x_ifnull, x_ifnonnull, x_ldi, x_lda, x_sti, x_sta, x_iinc, x_gf, x_pf, x_ald, x_ast, x_aln, x_len, x_cl_, x_cv, x_cs, x_rc, x_r0, x_isT, x_oi, x_rv, x_ri, x_ra, Value.category, t30_0, t30_1, t30_2, t30_4, t30_7, t30_10, t30_11, t30_14, t30_17, t30_18, t30_20, t30_23, t30_26, t30_27, t30_28, t30_29, t30_32, t30_35, t30_36, t30_38, t30_41, t30_44, t30_45, t30_46, t30_47, t30_50, t30_53, t30_54, t30_57, t30_60, t30_61, t30_64, t30_65, t30_66, t30_67, t30_70, t30_73, t30_74, t30_75, t30_76, t30_79, t30_82, t30_83, t30_86, t30_89, t30_90, t30_93, t30_94, lk_s, hp_get, hp_set, uH_at, uH_ne, uH_upd, uH_swap, iZ_add, iZ_sub, iZ_mul, iZ_neg, iZ_lt, iZ_le, iZ_eq, iZ_div, iZ_of, ix_Z, gZ_map, gZ_mapI, gZ_map', le_0, le_s, sZ_map, sZ_len, bZ_0, bZ_inj, bZ_t, bZ_f, nr_i, nr_0, nr_1, nr_b, ft_i, ft_b, ft_0, ft_1, zl_0, zl_1, zl_61, zl_106, zl_126, l0, l1, e12, mm, pO, -List.filter_filter, -List.getElem?_map, -List.getD_eq_getElem?_getD]
          refine R30.back ?_ g82
          exact E30 (p := p4) d hN i4 hb i5 i6 (F2.tr (i3.sub (by decide))) lv l1 82 (Or.inr rfl) (eL _ eM)
        · refine Or.inr ⟨fun x r3 z => ?_, p4, w4, F2.tr (i2.sub (by decide)), i3, i4, Gx.fin 20 i5 (fun X mm => ?_)⟩
          · have eq := eL _ eM
            cases hA : rdT 30 (sgn r).2 with
            | none =>
              rw [hA] at eq
              rw [eq] at z
              cases z
            | some v =>
              obtain ⟨u, r1⟩ := v
              have h40 := i1 u r1 hA
              rw [hA] at eq
              rw [eq] at z
              cases z
              intro hok
              have := hok.1
              simp only [List.length_nil] at h40
              dsimp only at this
              omega
          · simp (disch := first | (refine c1_id ?_; assumption) | (refine c1_st rfl ?_; repeat (first | assumption | refine c1_st rfl ?_)) | omega) [nx_l, nx_r, nx_n, x_st, x_push, x_bin, x_div, x_un, x_dup, x_pop, x_dup2, x_goto, x_ifeq, x_ifne, x_iflt, x_ifge, x_ifgt, x_ifle, x_iceq, x_icne, x_iclt, x_icge, x_icgt, x_icle, x_ifnull, x_ifnonnull, x_ldi, x_lda, x_sti, x_sta, x_iinc, x_gf, x_pf, x_ald, x_ast, x_aln, x_len, x_cl_, x_cv, x_cs, x_rc, x_r0, x_isT, x_oi, x_rv, x_ri, x_ra, Value.category, t30_0, t30_1, t30_2, t30_4, t30_7, t30_10, t30_11, t30_14, t30_17, t30_18, t30_20, t30_23, t30_26, t30_27, t30_28, t30_29, t30_32, t30_35, t30_36, t30_38, t30_41, t30_44, t30_45, t30_46, t30_47, t30_50, t30_53, t30_54, t30_57, t30_60, t30_61, t30_64, t30_65, t30_66, t30_67, t30_70, t30_73, t30_74, t30_75, t30_76, t30_79, t30_82, t30_83, t30_86, t30_89, t30_90, t30_93, t30_94, lk_s, hp_get, hp_set, uH_at, uH_ne, uH_upd, uH_swap, iZ_add, iZ_sub, iZ_mul, iZ_neg, iZ_lt, iZ_le, iZ_eq, iZ_div, iZ_of, ix_Z, gZ_map, gZ_mapI, gZ_map', le_0, le_s, sZ_map, sZ_len, bZ_0, bZ_inj, bZ_t, bZ_f, nr_i, nr_0, nr_1, nr_b, ft_i, ft_b, ft_0, ft_1, zl_0, zl_1, zl_61, zl_106, zl_126, l0, l1, e12, mm, pO, -List.filter_filter, -List.getElem?_map, -List.getD_eq_getElem?_getD]
  rcases key with ⟨x, r1, p', w', i1, i2, i3, i4, i5, i6, i7⟩ | ⟨i1, p', w', i2, i3, i4, i5⟩
  · exact Or.inl ⟨x, r1, p', w', i1, i2, i3, i4, i5, i6, Xc.of rfl (by simp [lg_sl, Value.category]) i7 (jk_le i3 hL.jk i4.jk h1 i5)⟩
  · exact Or.inr ⟨i1, p', w', i2, i3, i4, Xc.of rfl (by simp [lg_sl, Value.category]) i5 (jk_le i2 hL.jk i3 h1 i4)⟩
end RL
