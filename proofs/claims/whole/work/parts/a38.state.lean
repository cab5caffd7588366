/-! the class: its state; a clause is added -/
theorem f88_0 : x_fetch q_k88 0 = x_lda 1 0 := rfl
theorem t88_0 (C : xF) (s n : Nat) (z : xS) : x_to q_k88 C s (n + 1) 0 z = x_nx q_k88 C s n ((x_lda 1 0) C z) := x_to_at f88_0 C s n z
theorem f88_1 : x_fetch q_k88 1 = x_gf 4 0 2 := rfl
theorem t88_1 (C : xF) (s n : Nat) (z : xS) : x_to q_k88 C s (n + 1) 1 z = x_nx q_k88 C s n ((x_gf 4 0 2) C z) := x_to_at f88_1 C s n z
theorem f88_4 : x_fetch q_k88 4 = x_st (x_push 6 (.int (30))) := rfl
theorem t88_4 (C : xF) (s n : Nat) (z : xS) : x_to q_k88 C s (n + 1) 4 z = x_nx q_k88 C s n ((x_st (x_push 6 (.int (30)))) C z) := x_to_at f88_4 C s n z
theorem f88_6 : x_fetch q_k88 6 = x_st (x_icge 57 9) := rfl
theorem t88_6 (C : xF) (s n : Nat) (z : xS) : x_to q_k88 C s (n + 1) 6 z = x_nx q_k88 C s n ((x_st (x_icge 57 9)) C z) := x_to_at f88_6 C s n z
theorem f88_9 : x_fetch q_k88 9 = x_lda 10 0 := rfl
theorem t88_9 (C : xF) (s n : Nat) (z : xS) : x_to q_k88 C s (n + 1) 9 z = x_nx q_k88 C s n ((x_lda 10 0) C z) := x_to_at f88_9 C s n z
theorem f88_10 : x_fetch q_k88 10 = x_gf 13 0 3 := rfl
theorem t88_10 (C : xF) (s n : Nat) (z : xS) : x_to q_k88 C s (n + 1) 10 z = x_nx q_k88 C s n ((x_gf 13 0 3) C z) := x_to_at f88_10 C s n z
theorem f88_13 : x_fetch q_k88 13 = x_lda 14 1 := rfl
theorem t88_13 (C : xF) (s n : Nat) (z : xS) : x_to q_k88 C s (n + 1) 13 z = x_nx q_k88 C s n ((x_lda 14 1) C z) := x_to_at f88_13 C s n z
theorem f88_14 : x_fetch q_k88 14 = x_cv 17 37 2 7 := rfl
theorem t88_14 (C : xF) (s n : Nat) (z : xS) : x_to q_k88 C s (n + 1) 14 z = x_nx q_k88 C s n ((x_cv 17 37 2 7) C z) := x_to_at f88_14 C s n z
theorem f88_17 : x_fetch q_k88 17 = x_lda 18 0 := rfl
theorem t88_17 (C : xF) (s n : Nat) (z : xS) : x_to q_k88 C s (n + 1) 17 z = x_nx q_k88 C s n ((x_lda 18 0) C z) := x_to_at f88_17 C s n z
theorem f88_18 : x_fetch q_k88 18 = x_gf 21 0 1 := rfl
theorem t88_18 (C : xF) (s n : Nat) (z : xS) : x_to q_k88 C s (n + 1) 18 z = x_nx q_k88 C s n ((x_gf 21 0 1) C z) := x_to_at f88_18 C s n z
theorem f88_21 : x_fetch q_k88 21 = x_lda 22 0 := rfl
theorem t88_21 (C : xF) (s n : Nat) (z : xS) : x_to q_k88 C s (n + 1) 21 z = x_nx q_k88 C s n ((x_lda 22 0) C z) := x_to_at f88_21 C s n z
theorem f88_22 : x_fetch q_k88 22 = x_gf 25 0 2 := rfl
theorem t88_22 (C : xF) (s n : Nat) (z : xS) : x_to q_k88 C s (n + 1) 22 z = x_nx q_k88 C s n ((x_gf 25 0 2) C z) := x_to_at f88_22 C s n z
theorem f88_25 : x_fetch q_k88 25 = x_nw_ 28 1 [.null, .int 0, .int 0, .null] := rfl
theorem t88_25 (C : xF) (s n : Nat) (z : xS) : x_to q_k88 C s (n + 1) 25 z = x_nx q_k88 C s n ((x_nw_ 28 1 [.null, .int 0, .int 0, .null]) C z) := x_to_at f88_25 C s n z
theorem f88_28 : x_fetch q_k88 28 = x_st (x_dup 29) := rfl
theorem t88_28 (C : xF) (s n : Nat) (z : xS) : x_to q_k88 C s (n + 1) 28 z = x_nx q_k88 C s n ((x_st (x_dup 29)) C z) := x_to_at f88_28 C s n z
theorem f88_29 : x_fetch q_k88 29 = x_nw_ 32 4 [.null, .null, .null, .int 0, .int 0, .int 0] := rfl
theorem t88_29 (C : xF) (s n : Nat) (z : xS) : x_to q_k88 C s (n + 1) 29 z = x_nx q_k88 C s n ((x_nw_ 32 4 [.null, .null, .null, .int 0, .int 0, .int 0]) C z) := x_to_at f88_29 C s n z
theorem f88_32 : x_fetch q_k88 32 = x_st (x_dup 33) := rfl
theorem t88_32 (C : xF) (s n : Nat) (z : xS) : x_to q_k88 C s (n + 1) 32 z = x_nx q_k88 C s n ((x_st (x_dup 33)) C z) := x_to_at f88_32 C s n z
theorem f88_33 : x_fetch q_k88 33 = x_lda 34 1 := rfl
theorem t88_33 (C : xF) (s n : Nat) (z : xS) : x_to q_k88 C s (n + 1) 33 z = x_nx q_k88 C s n ((x_lda 34 1) C z) := x_to_at f88_33 C s n z
theorem f88_34 : x_fetch q_k88 34 = x_cs 37 9 2 := rfl
theorem t88_34 (C : xF) (s n : Nat) (z : xS) : x_to q_k88 C s (n + 1) 34 z = x_nx q_k88 C s n ((x_cs 37 9 2) C z) := x_to_at f88_34 C s n z
theorem f88_37 : x_fetch q_k88 37 = x_ldi 38 2 := rfl
theorem t88_37 (C : xF) (s n : Nat) (z : xS) : x_to q_k88 C s (n + 1) 37 z = x_nx q_k88 C s n ((x_ldi 38 2) C z) := x_to_at f88_37 C s n z
theorem f88_38 : x_fetch q_k88 38 = x_ldi 39 3 := rfl
theorem t88_38 (C : xF) (s n : Nat) (z : xS) : x_to q_k88 C s (n + 1) 38 z = x_nx q_k88 C s n ((x_ldi 39 3) C z) := x_to_at f88_38 C s n z
theorem f88_39 : x_fetch q_k88 39 = x_lda 40 1 := rfl
theorem t88_39 (C : xF) (s n : Nat) (z : xS) : x_to q_k88 C s (n + 1) 39 z = x_nx q_k88 C s n ((x_lda 40 1) C z) := x_to_at f88_39 C s n z
theorem f88_40 : x_fetch q_k88 40 = x_cl_ 43 89 1 := rfl
theorem t88_40 (C : xF) (s n : Nat) (z : xS) : x_to q_k88 C s (n + 1) 40 z = x_nx q_k88 C s n ((x_cl_ 43 89 1) C z) := x_to_at f88_40 C s n z
theorem f88_43 : x_fetch q_k88 43 = x_cs 46 7 5 := rfl
theorem t88_43 (C : xF) (s n : Nat) (z : xS) : x_to q_k88 C s (n + 1) 43 z = x_nx q_k88 C s n ((x_cs 46 7 5) C z) := x_to_at f88_43 C s n z
theorem f88_46 : x_fetch q_k88 46 = x_astr 47 4 1 := rfl
theorem t88_46 (C : xF) (s n : Nat) (z : xS) : x_to q_k88 C s (n + 1) 46 z = x_nx q_k88 C s n ((x_astr 47 4 1) C z) := x_to_at f88_46 C s n z
theorem f88_47 : x_fetch q_k88 47 = x_lda 48 0 := rfl
theorem t88_47 (C : xF) (s n : Nat) (z : xS) : x_to q_k88 C s (n + 1) 47 z = x_nx q_k88 C s n ((x_lda 48 0) C z) := x_to_at f88_47 C s n z
theorem f88_48 : x_fetch q_k88 48 = x_st (x_dup 49) := rfl
theorem t88_48 (C : xF) (s n : Nat) (z : xS) : x_to q_k88 C s (n + 1) 48 z = x_nx q_k88 C s n ((x_st (x_dup 49)) C z) := x_to_at f88_48 C s n z
theorem f88_49 : x_fetch q_k88 49 = x_gf 52 0 2 := rfl
theorem t88_49 (C : xF) (s n : Nat) (z : xS) : x_to q_k88 C s (n + 1) 49 z = x_nx q_k88 C s n ((x_gf 52 0 2) C z) := x_to_at f88_49 C s n z
theorem f88_52 : x_fetch q_k88 52 = x_st (x_push 53 (.int (1))) := rfl
theorem t88_52 (C : xF) (s n : Nat) (z : xS) : x_to q_k88 C s (n + 1) 52 z = x_nx q_k88 C s n ((x_st (x_push 53 (.int (1)))) C z) := x_to_at f88_52 C s n z
theorem f88_53 : x_fetch q_k88 53 = x_st (x_bin 54 (fun a b => a + b)) := rfl
theorem t88_53 (C : xF) (s n : Nat) (z : xS) : x_to q_k88 C s (n + 1) 53 z = x_nx q_k88 C s n ((x_st (x_bin 54 (fun a b => a + b))) C z) := x_to_at f88_53 C s n z
theorem f88_54 : x_fetch q_k88 54 = x_pf 57 0 2 (.int) := rfl
theorem t88_54 (C : xF) (s n : Nat) (z : xS) : x_to q_k88 C s (n + 1) 54 z = x_nx q_k88 C s n ((x_pf 57 0 2 (.int)) C z) := x_to_at f88_54 C s n z
theorem f88_57 : x_fetch q_k88 57 = x_rv := rfl
theorem t88_57 (C : xF) (s n : Nat) (z : xS) : x_to q_k88 C s (n + 1) 57 z = x_nx q_k88 C s n ((x_rv) C z) := x_to_at f88_57 C s n z
abbrev dk (cnt clm cf lf : Int) : xC := .inr (0, [.ref 4, .ref 6, .int (iZ cnt), .ref 7, .ref 10, .int (iZ clm), .int (iZ cf), .ref 14, .ref 27, .int (iZ lf)])
abbrev dA (Rf : List (Option Nat)) : xC := .inl (4, .inr (.inr Rf))
def CLa (w : Nat → xC) (N n : Nat) (q : List (Int × List Int) × Bool × Int × Int) : Prop := ∃ (t : Nat) (S E B : List Int), 53 ≤ n ∧ n + 4 < N ∧ w n = .inr (1, [.ref (n + 1 + 3), .int (iZ q.2.2.1), .int (iZ q.2.2.2), .ref t]) ∧ FM w N (n + 1) S E B q.1 0 ∧ TXo 53 w N t (txC q.1)
theorem FM.up {w : Nat → xC} {N N' a : Nat} {S E B : List Int} {D : List (Int × List Int)} {o : Int} (h : FM w N a S E B D o) (hN : N ≤ N') : FM w N' a S E B D o := by
  obtain ⟨h1, h2, h3⟩ := h
  exact ⟨h1, ⟨by have := h2.1; omega, h2.2⟩, h3⟩
theorem CLa.mv {w w' : Nat → xC} {N N' n : Nat} {q : List (Int × List Int) × Bool × Int × Int} (h : CLa w N n q) (hN : N ≤ N') (f : ∀ j, 53 ≤ j → j < N → w' j = w j) : CLa w' N' n q := by
  obtain ⟨t, S, E, B, h1, h2, h3, h4, h5⟩ := h
  exact ⟨t, S, E, B, h1, by omega, (f n h1 (by omega)).trans h3, (h4.mv (fun j j0 j1 => f j (by omega) (by omega))).up hN, h5.mv (Nat.le_refl _) hN f⟩
/-- the state of the class: the clauses, the draft, the uses of letters -/
def CS (w : Nat → xC) (N : Nat) (Ds : List (List (Int × List Int) × Bool × Int × Int)) (T U : List Int) (clm cf lf : Int) : Prop :=
  w 0 = dk Ds.length clm cf lf ∧ Ds.length ≤ 30 ∧ (∃ (p : Int) (Tx : List Int), w 1 = pO p T.length ∧ w 2 = cI 2 Tx ∧ DX Tx T.length 0 T) ∧ (∃ Rf : List (Option Nat), w 3 = dA Rf ∧ Rf.length = 30 ∧ ∀ i : Nat, i < Ds.length → ∃ n, Rf.getD i none = some (n + 3) ∧ CLa w N n (cl Ds i)) ∧ w 4 = .inr (7, [.ref 8, .ref 9]) ∧ w 5 = cI 0 U ∧ UOK U ∧ (∃ V, w 6 = cI 0 V ∧ V.length = 26) ∧ JK w 7 ∧ DI w ∧ MI w ∧ 53 ≤ N ∧ (∀ j, 53 ≤ j → j < N → x_c1 (w j) ≤ 400)
theorem JK.mvB {w w' : Nat → xC} (h : JK w 7) (f : ∀ j, 6 ≤ j → j ≤ 26 → w' j = w j) : JK w' 7 := h.mv (fun j j0 j1 => f j (by omega) (by omega))
theorem DI.mv {w w' : Nat → xC} (h : DI w) (f : ∀ j, 6 ≤ j → j ≤ 26 → w' j = w j) : DI w' := by
  obtain ⟨⟨q1, q2, q3, q4, q5, q6, a0⟩, ⟨S, E, B, c, ln, o, ⟨a1, a2, a3, a4⟩, a5⟩, ⟨l, wt, Sy, Ee, Ro, Fs, Fi, Os, Ot, g1, g2, g3, g4, g5, g6, g7, g8, g9, g10, g11, g12, g13, g14, g15, g16, g17⟩⟩ := h
  exact ⟨⟨q1, q2, q3, q4, q5, q6, (f 11 (by decide) (by decide)).trans a0⟩, ⟨S, E, B, c, ln, o, ⟨(f 12 (by decide) (by decide)).trans a1, (f 13 (by decide) (by decide)).trans a2, (f 14 (by decide) (by decide)).trans a3, (f 15 (by decide) (by decide)).trans a4⟩, a5⟩, ⟨l, wt, Sy, Ee, Ro, Fs, Fi, Os, Ot, (f 16 (by decide) (by decide)).trans g1, (f 17 (by decide) (by decide)).trans g2, g3, (f 18 (by decide) (by decide)).trans g4, g5, (f 19 (by decide) (by decide)).trans g6, g7, g8, (f 20 (by decide) (by decide)).trans g9, g10, (f 21 (by decide) (by decide)).trans g11, g12, g13, (f 22 (by decide) (by decide)).trans g14, g15, (f 23 (by decide) (by decide)).trans g16, g17⟩⟩
theorem MI.mv {w w' : Nat → xC} (h : MI w) (f : ∀ j, 24 ≤ j → j ≤ 26 → w' j = w j) : MI w' := by
  obtain ⟨mn, Tm, Bn, h1, h2, h3, h4, h5⟩ := h
  exact ⟨mn, Tm, Bn, (f 24 (by decide) (by decide)).trans h1, (f 25 (by decide) (by decide)).trans h2, h3, (f 26 (by decide) (by decide)).trans h4, h5⟩
theorem FW.take {C : List (Int × List Int)} {S E B : List Int} (h : FW C S E B) : FW C (S.take (flt C).length) (E.take C.length) (B.take C.length) := by
  have g : ∀ (X : List Int) (n i : Nat), i < n → gZ (X.take n) (i : Int) = gZ X (i : Int) := fun X n i hi => by
    unfold gZ
    rw [Int.toNat_natCast, List.getD_eq_getElem?_getD, List.getElem?_take_of_lt hi, List.getD_eq_getElem?_getD]
  exact ⟨fun j hj => by rw [g _ _ _ hj]; exact h.1 j hj, fun k hk => by rw [g _ _ _ hk]; exact h.2.1 k hk, fun k hk => by rw [g _ _ _ hk]; exact h.2.2 k hk⟩
theorem getD_set {Rf : List (Option Nat)} {n i : Nat} {v : Option Nat} (hn : n < Rf.length) : (Rf.set n v).getD i none = if i = n then v else Rf.getD i none := by
  rw [List.getD_eq_getElem?_getD, List.getElem?_set, List.getD_eq_getElem?_getD]
  by_cases h : n = i
  · subst h
    rw [if_pos rfl, if_pos hn, if_pos rfl]
    rfl
  · rw [if_neg h, if_neg (fun z => h z.symm)]
section ADD
variable {w : Nat → xC} {N a : Nat} {Ds : List (List (Int × List Int) × Bool × Int × Int)} {T U : List Int} {clm cf lf : Int} {C : List (Int × List Int)}
set_option maxHeartbeats 2000000 in
theorem m88 (d : Nat) (h : CS w N Ds T U clm cf lf) (h30 : Ds.length < 30) (hL : LA w a C) (ha : 5 < a) (ha2 : a + 3 < 27) (hg : gC C) (h9 : no9 C) (ok : (ntC C (U, false)).2 = false) (g : Bool) (lvl src : Int) :
    ∃ (w' : Nat → xC) (N' : Nat), N ≤ N' ∧ N' ≤ N + 206 ∧ CS w' N' (Ds ++ [(C, g, lvl, src)]) T (ntC C (U, false)).1 clm cf lf ∧ (∀ j, 6 ≤ j → j < N → w' j = w j) ∧ Xc (d + 49) 88 [.ref 3, .ref (a + 3), .int (iZ lvl), .int (iZ src)] (hp w N) (none, hp w' N') := by
  obtain ⟨c0, c30, ⟨p, Tx, c1_, c2_, c3_⟩, ⟨Rf, r1, r2, r3⟩, c4, c5, c6, ⟨V, c7, c8⟩, c9, c10, c11, c12, c13⟩ := h
  obtain ⟨S, E, B, o, f1, f2, f3, f4, f5, f6, f7, f8⟩ := hL
  have hfN : fN N a S E B := ⟨by omega, by omega, by omega, by omega⟩
  have X37 := m37 (N := N) (d + 45) c12 c4 c6 c5 f1 hfN ha f5 f6 (by omega) (by omega) ok
  obtain ⟨U', hU'⟩ : ∃ U', U' = (ntC C (U, false)).1 := ⟨_, rfl⟩
  have uk : UOK U' := by rw [hU']; exact ntC_uk c6
  rw [← hU'] at X37 ⊢
  obtain ⟨w1, hw1⟩ : ∃ w1, w1 = uH w 5 (cI 0 U') := ⟨_, rfl⟩
  rw [← hw1] at X37
  have k1 : ∀ j, j ≠ 5 → w1 j = w j := fun j hj => by rw [hw1, uH_ne hj]
  obtain ⟨w3, hw3⟩ : ∃ w3, w3 = uH (uH w1 N (.inr (1, [.null, .int (iZ 0), .int (iZ 0), .null]))) (N + 1) (.inr (4, [.null, .null, .null, .int (iZ 0), .int (iZ 0), .int (iZ 0)])) := ⟨_, rfl⟩
  have k3 : ∀ j, j < N → j ≠ 5 → w3 j = w j := fun j hj h5 => by rw [hw3, uH_ne (by omega), uH_ne (by omega)]; exact k1 j h5
  have f13 : fo w3 a S E B (C.length : Nat) ((flt C).length : Nat) o := ⟨(k3 a (by omega) (by omega)).trans f1.1, (k3 (a + 1) (by omega) (by omega)).trans f1.2.1, (k3 (a + 2) (by omega) (by omega)).trans f1.2.2.1, (k3 (a + 3) (by omega) (by omega)).trans f1.2.2.2⟩
  have hB01 : ∀ i : Int, 0 ≤ i → i < (C.length : Int) → gZ B i = 0 ∨ gZ B i = 1 := fun i i0 i1 => by
    have := f5.2.2 i.toNat (by omega)
    rw [show ((i.toNat : Nat) : Int) = i by omega] at this
    rw [this]
    exact (f6 _ (lC_mem (by omega))).1
  have X9 := m9 (w := w3) (b := N + 1) (a := a) (d + 46) (by omega) C.length (flt C).length f13 (by omega) (by omega) (by omega) (by omega) (by omega) (by omega) hB01 (by rw [hw3, uH_at])
  obtain ⟨w4, hw4⟩ : ∃ w4, w4 = uH (uH (uH (uH w3 (N + 1) (fC (N + 1) C.length (flt C).length 0)) (N + 1 + 1) (cI 0 (S.take (flt C).length))) (N + 1 + 2) (cI 0 (E.take C.length))) (N + 1 + 3) (cI 1 (B.take C.length)) := ⟨_, rfl⟩
  rw [← hw4] at X9
  have X9 : Xc (d + 48) 9 [.ref (N + 4), .ref (a + 3)] (hp w3 (N + 2)) (none, hp w4 (N + 5)) := X9
  have k4 : ∀ j, j < N → j ≠ 5 → w4 j = w j := fun j hj h5 => by rw [hw4, uH_ne (by omega), uH_ne (by omega), uH_ne (by omega), uH_ne (by omega)]; exact k3 j hj h5
  have e4N : w4 N = .inr (1, [.null, .int (iZ 0), .int (iZ 0), .null]) := by rw [hw4, uH_ne (by omega), uH_ne (by omega), uH_ne (by omega), uH_ne (by omega), hw3, uH_ne (by omega), uH_at]
  have hFT : FT w4 (N + 5) a C := ⟨S, E, B, o, ⟨(k4 a (by omega) (by omega)).trans f1.1, (k4 (a + 1) (by omega) (by omega)).trans f1.2.1, (k4 (a + 2) (by omega) (by omega)).trans f1.2.2.1, (k4 (a + 3) (by omega) (by omega)).trans f1.2.2.2⟩, by omega, by omega, by omega, f5, hg, by omega, by omega, by omega, by omega⟩
  obtain ⟨w5, N5, t, i1, i2, i3, i4, i5, X89⟩ := m89 (d + 1) (by omega) hFT h9
  have X7 := m7 (w := w5) (N := N5) (n := N) (f := N + 4) (t := t) (d + 47) (by omega) (by rw [i3 N (by omega)]; exact e4N) lvl src
  obtain ⟨w6, hw6⟩ : ∃ w6, w6 = uH w5 N (.inr (1, [.ref (N + 4), .int (iZ lvl), .int (iZ src), .ref t])) := ⟨_, rfl⟩
  rw [← hw6] at X7
  have k6 : ∀ j, j < N → j ≠ 5 → w6 j = w j := fun j hj h5 => by rw [hw6, uH_ne (by omega), i3 j (by omega)]; exact k4 j hj h5
  have e6N : w6 N = .inr (1, [.ref (N + 4), .int (iZ lvl), .int (iZ src), .ref t]) := by rw [hw6, uH_at]
  obtain ⟨w8, hw8⟩ : ∃ w8, w8 = uH (uH w6 0 (dk ((Ds.length : Int) + 1) clm cf lf)) 3 (dA (Rf.set Ds.length (some (N + 3)))) := ⟨_, rfl⟩
  have k8 : ∀ j, 6 ≤ j → j < N → w8 j = w j := fun j j0 j1 => by rw [hw8, uH_ne (by omega), uH_ne (by omega)]; exact k6 j j1 (by omega)
  have k8' : ∀ j, N ≤ j → w8 j = w6 j := fun j j0 => by rw [hw8, uH_ne (by omega), uH_ne (by omega)]
  have nf : ∀ j, N + 1 ≤ j → j < N + 5 → w8 j = w4 j := fun j j0 j1 => by rw [k8' j (by omega), hw6, uH_ne (by omega)]; exact i3 j (by omega)
  have e8_5 : w8 5 = cI 0 U' := by rw [hw8, uH_ne (by decide), uH_ne (by decide), hw6, uH_ne (by omega), i3 5 (by omega), hw4, uH_ne (by omega), uH_ne (by omega), uH_ne (by omega), uH_ne (by omega), hw3, uH_ne (by omega), uH_ne (by omega), hw1, uH_at]
  have k8l : ∀ j, j < 6 → j ≠ 0 → j ≠ 3 → j ≠ 5 → w8 j = w j := fun j h1 h2 h3 h5 => by rw [hw8, uH_ne h3, uH_ne h2]; exact k6 j (by omega) h5
  refine ⟨w8, N5, by omega, by omega, ⟨?_, by simp; omega, ⟨p, Tx, (k8l 1 (by decide) (by decide) (by decide) (by decide)).trans c1_, (k8l 2 (by decide) (by decide) (by decide) (by decide)).trans c2_, c3_⟩, ⟨Rf.set Ds.length (some (N + 3)), by rw [hw8, uH_at], by simp [r2], fun i hi => ?_⟩, (k8l 4 (by decide) (by decide) (by decide) (by decide)).trans c4, e8_5, uk, ⟨V, (k8 6 (by decide) (by omega)).trans c7, c8⟩, c9.mvB (fun j j0 j1 => k8 j j0 (by omega)), c10.mv (fun j j0 j1 => k8 j j0 (by omega)), c11.mv (fun j j0 j1 => k8 j (by omega) (by omega)), by omega, fun j j0 j1 => ?_⟩, k8, ?_⟩
  · rw [hw8, uH_ne (by decide), uH_at, List.length_append, List.length_singleton]
    rfl
  · rw [getD_set (by omega), getD_cl]
    simp only [List.length_append, List.length_singleton] at hi
    by_cases e : i < Ds.length
    · rw [if_neg (by omega), if_pos e]
      obtain ⟨n, n1, n2⟩ := r3 i e
      exact ⟨n, n1, n2.mv (by omega) (fun j j0 j1 => k8 j (by omega) j1)⟩
    · have e2 : i = Ds.length := by omega
      rw [if_pos e2, if_neg e, if_pos e2]
      refine ⟨N, rfl, t, S.take (flt C).length, E.take C.length, B.take C.length, c12, by omega, ?_, ⟨⟨?_, ?_, ?_, ?_⟩, ⟨by omega, by simp; omega, by simp; omega, by simp; omega⟩, f5.take, hg, by simp; omega, by simp; omega, by simp; omega⟩, ?_⟩
      · rw [k8' N (Nat.le_refl _)]
        exact e6N
      · rw [nf (N + 1) (by omega) (by omega), hw4, uH_ne (by omega), uH_ne (by omega), uH_ne (by omega), uH_at]
        rfl
      · rw [nf (N + 1 + 1) (by omega) (by omega), hw4, uH_ne (by omega), uH_ne (by omega), uH_at]
      · rw [nf (N + 1 + 2) (by omega) (by omega), hw4, uH_ne (by omega), uH_at]
      · rw [nf (N + 1 + 3) (by omega) (by omega), hw4, uH_at]
      · refine i5.mv (by omega) (Nat.le_refl _) (fun j j0 j1 => ?_)
        rw [k8' j (by omega), hw6, uH_ne (by omega)]
  · by_cases e1 : j < N
    · rw [k8 j (by omega) e1]
      exact c13 j j0 e1
    · rw [k8' j (by omega)]
      by_cases e2 : j = N
      · rw [e2, e6N]
        simp [x_c1]
      · rw [hw6, uH_ne e2]
        by_cases e3 : j < N + 5
        · rw [i3 j e3, hw4]
          have : j = N + 1 ∨ j = N + 1 + 1 ∨ j = N + 1 + 2 ∨ j = N + 1 + 3 := by omega
          rcases this with rfl | rfl | rfl | rfl
          · rw [uH_ne (by omega), uH_ne (by omega), uH_ne (by omega), uH_at]
            simp [x_c1, fC]
          · rw [uH_ne (by omega), uH_ne (by omega), uH_at]
            simp [x_c1]
            omega
          · rw [uH_ne (by omega), uH_at]
            simp [x_c1]
            omega
          · rw [uH_at]
            simp [x_c1]
            omega
        · exact i4 j (by omega) j1
  · have hle : x_le (hp w N) (hp w8 N5) := hp_le (by omega) (fun j hj => by
      by_cases e0 : j = 0
      · rw [e0, c0, hw8, uH_ne (by decide), uH_at]
        simp [x_c1]
      · by_cases e3 : j = 3
        · rw [e3, r1, hw8, uH_at]
          simp [x_c1]
        · by_cases e5 : j = 5
          · rw [e5, c5, e8_5]
            simp [x_c1, c6.1, uk.1]
          · by_cases e6 : j < 6
            · rw [k8l j e6 e0 e3 e5]
              exact Nat.le_refl _
            · rw [k8 j (by omega) hj]
              exact Nat.le_refl _)
    refine Xc.of rfl (by simp [lg_sl, Value.category]) ?_ (hle)
    have hc : c1 (lv_args 0 [.ref 3, .ref (a + 3), .int (iZ lvl), .int (iZ src)]) := by simp [c1, lv_args, Value.category]
    have l0 : x_lk (lv_args 0 [.ref 3, .ref (a + 3), .int (iZ lvl), .int (iZ src)]) 0 = some (.ref 3) := rfl
    have l1 : x_lk (lv_args 0 [.ref 3, .ref (a + 3), .int (iZ lvl), .int (iZ src)]) 1 = some (.ref (a + 3)) := rfl
    have l2 : x_lk (lv_args 0 [.ref 3, .ref (a + 3), .int (iZ lvl), .int (iZ src)]) 2 = some (.int (iZ lvl)) := rfl
    have l3 : x_lk (lv_args 0 [.ref 3, .ref (a + 3), .int (iZ lvl), .int (iZ src)]) 3 = some (.int (iZ src)) := rfl
    generalize lv_args 0 [.ref 3, .ref (a + 3), .int (iZ lvl), .int (iZ src)] = lv at hc l0 l1 l2 l3
    obtain ⟨cnt, hcnt⟩ : ∃ cnt : Int, cnt = (Ds.length : Int) := ⟨_, rfl⟩
    have z0 : 0 ≤ cnt := by omega
    have z9 : cnt < 30 := by omega
    have b1 : ¬ 30 ≤ cnt := by omega
    rw [← hcnt] at c0
    have e10 : w1 0 = dk cnt clm cf lf := (k1 0 (by decide)).trans c0
    have e40 : w4 0 = dk cnt clm cf lf := (k4 0 (by omega) (by decide)).trans c0
    have e60 : w6 0 = dk cnt clm cf lf := (k6 0 (by omega) (by decide)).trans c0
    have e63 : w6 3 = dA Rf := (k6 3 (by omega) (by decide)).trans r1
    refine Gx.run 40 (pc' := 37) (z' := (lv, [.ref (N + 4), .ref (N + 3), .ref (N + 3), .int (iZ cnt), .ref 6], hp w4 (N + 5))) (X37.and X9) (fun X mm => ?_) ?_
    · obtain ⟨mm1, mm2⟩ := mm
      rw [hw3] at mm2
      simp (disch := first | (refine c1_id ?_; assumption) | (refine c1_st rfl ?_; repeat (first | assumption | refine c1_st rfl ?_)) | omega) [nx_l, nx_r, nx_n, x_st, x_push, x_bin, x_div, x_un, x_dup, x_pop, x_dup2, x_goto, x_ifeq, x_ifne, x_iflt, x_ifge, x_ifgt, x_ifle, x_iceq, x_icne, x_iclt, x_icge, x_icgt, x_icle, x_ifnull, x_ifnonnull, x_ldi, x_lda, x_sti, x_sta, x_iinc, x_gf, x_pf, x_ald, x_ast, x_aln, x_len, x_cl_, x_cv, x_cs, x_rc, x_r0, x_isT, x_oi, x_rv, x_ri, x_ra, Value.category, t88_0, t88_1, t88_4, t88_6, t88_9, t88_10, t88_13, t88_14, t88_17, t88_18, t88_21, t88_22, t88_25, t88_28, t88_29, t88_32, t88_33, t88_34, t88_37, t88_38, t88_39, t88_40, t88_43, t88_46, t88_47, t88_48, t88_49, t88_52, t88_53, t88_54, t88_57, lk_s, hp_get, hp_set, uH_at, uH_ne, uH_upd, uH_swap, iZ_add, iZ_sub, iZ_mul, iZ_neg, iZ_lt, iZ_le, iZ_eq, iZ_div, iZ_of, ix_Z, gZ_map, gZ_mapI, gZ_map', le_0, le_s, sZ_map, sZ_len, bZ_0, bZ_inj, bZ_t, bZ_f, nr_i, nr_0, nr_1, nr_b, ft_i, ft_b, ft_0, ft_1, zl_0, zl_1, zl_30, l0, l1, c0, c4, e10, b1, mm1, mm2, x_nw_, hp_push, hp_len, dk, -List.filter_filter, -List.getElem?_map, -List.getD_eq_getElem?_getD]
    · have tn : tN cnt = Ds.length := by unfold tN; omega
      have w8e : w8 = uH (uH w6 3 (dA (Rf.set Ds.length (some (N + 3))))) 0 (dk (cnt + 1) clm cf lf) := by rw [hw8, hcnt, ← uH_swap (show 0 < 3 by decide)]
      rw [w8e]
      have rl : cnt < Rf.length := by omega
      have rl2 : Rf.length < 100 := by omega
      refine Gx.fin 40 (X89.and X7) (fun X mm => ?_)
      obtain ⟨mm1, mm2⟩ := mm
      simp (disch := first | (refine c1_id ?_; assumption) | (refine c1_st rfl ?_; repeat (first | assumption | refine c1_st rfl ?_)) | omega) [nx_l, nx_r, nx_n, x_st, x_push, x_bin, x_div, x_un, x_dup, x_pop, x_dup2, x_goto, x_ifeq, x_ifne, x_iflt, x_ifge, x_ifgt, x_ifle, x_iceq, x_icne, x_iclt, x_icge, x_icgt, x_icle, x_ifnull, x_ifnonnull, x_ldi, x_lda, x_sti, x_sta, x_iinc, x_gf, x_pf, x_ald, x_ast, x_aln, x_len, x_cl_, x_cv, x_cs, x_rc, x_r0, x_isT, x_oi, x_rv, x_ri, x_ra, Value.category, t88_0, t88_1, t88_4, t88_6, t88_9, t88_10, t88_13, t88_14, t88_17, t88_18, t88_21, t88_22, t88_25, t88_28, t88_29, t88_32, t88_33, t88_34, t88_37, t88_38, t88_39, t88_40, t88_43, t88_46, t88_47, t88_48, t88_49, t88_52, t88_53, t88_54, t88_57, lk_s, hp_get, hp_set, uH_at, uH_ne, uH_upd, uH_swap, iZ_add, iZ_sub, iZ_mul, iZ_neg, iZ_lt, iZ_le, iZ_eq, iZ_div, iZ_of, ix_Z, gZ_map, gZ_mapI, gZ_map', le_0, le_s, sZ_map, sZ_len, bZ_0, bZ_inj, bZ_t, bZ_f, nr_i, nr_0, nr_1, nr_b, ft_i, ft_b, ft_0, ft_1, zl_0, zl_1, zl_30, l0, l1, l2, l3, e60, e63, e6N, mm1, mm2, tn, x_astr, dk, -List.filter_filter, -List.getElem?_map, -List.getD_eq_getElem?_getD]
end ADD
