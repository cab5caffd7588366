/-! the class: a clause is more special than another -/
theorem f53_0 : x_fetch q_k53 0 = x_lda 1 0 := rfl
theorem t53_0 (C : xF) (s n : Nat) (z : xS) : x_to q_k53 C s (n + 1) 0 z = x_nx q_k53 C s n ((x_lda 1 0) C z) := x_to_at f53_0 C s n z
theorem f53_1 : x_fetch q_k53 1 = x_gf 4 6 0 := rfl
theorem t53_1 (C : xF) (s n : Nat) (z : xS) : x_to q_k53 C s (n + 1) 1 z = x_nx q_k53 C s n ((x_gf 4 6 0) C z) := x_to_at f53_1 C s n z
theorem f53_4 : x_fetch q_k53 4 = x_st (x_push 5 (.int (-1))) := rfl
theorem t53_4 (C : xF) (s n : Nat) (z : xS) : x_to q_k53 C s (n + 1) 4 z = x_nx q_k53 C s n ((x_st (x_push 5 (.int (-1)))) C z) := x_to_at f53_4 C s n z
theorem f53_5 : x_fetch q_k53 5 = x_cl_ 8 148 2 := rfl
theorem t53_5 (C : xF) (s n : Nat) (z : xS) : x_to q_k53 C s (n + 1) 5 z = x_nx q_k53 C s n ((x_cl_ 8 148 2) C z) := x_to_at f53_5 C s n z
theorem f53_8 : x_fetch q_k53 8 = x_lda 9 0 := rfl
theorem t53_8 (C : xF) (s n : Nat) (z : xS) : x_to q_k53 C s (n + 1) 8 z = x_nx q_k53 C s n ((x_lda 9 0) C z) := x_to_at f53_8 C s n z
theorem f53_9 : x_fetch q_k53 9 = x_st (x_push 10 (.int (0))) := rfl
theorem t53_9 (C : xF) (s n : Nat) (z : xS) : x_to q_k53 C s (n + 1) 9 z = x_nx q_k53 C s n ((x_st (x_push 10 (.int (0)))) C z) := x_to_at f53_9 C s n z
theorem f53_10 : x_fetch q_k53 10 = x_pf 13 6 2 (.int) := rfl
theorem t53_10 (C : xF) (s n : Nat) (z : xS) : x_to q_k53 C s (n + 1) 10 z = x_nx q_k53 C s n ((x_pf 13 6 2 (.int)) C z) := x_to_at f53_10 C s n z
theorem f53_13 : x_fetch q_k53 13 = x_lda 14 0 := rfl
theorem t53_13 (C : xF) (s n : Nat) (z : xS) : x_to q_k53 C s (n + 1) 13 z = x_nx q_k53 C s n ((x_lda 14 0) C z) := x_to_at f53_13 C s n z
theorem f53_14 : x_fetch q_k53 14 = x_lda 15 1 := rfl
theorem t53_14 (C : xF) (s n : Nat) (z : xS) : x_to q_k53 C s (n + 1) 14 z = x_nx q_k53 C s n ((x_lda 15 1) C z) := x_to_at f53_14 C s n z
theorem f53_15 : x_fetch q_k53 15 = x_st (x_push 16 (.int (0))) := rfl
theorem t53_15 (C : xF) (s n : Nat) (z : xS) : x_to q_k53 C s (n + 1) 15 z = x_nx q_k53 C s n ((x_st (x_push 16 (.int (0)))) C z) := x_to_at f53_15 C s n z
theorem f53_16 : x_fetch q_k53 16 = x_lda 17 2 := rfl
theorem t53_16 (C : xF) (s n : Nat) (z : xS) : x_to q_k53 C s (n + 1) 16 z = x_nx q_k53 C s n ((x_lda 17 2) C z) := x_to_at f53_16 C s n z
theorem f53_17 : x_fetch q_k53 17 = x_cv 20 54 4 6 := rfl
theorem t53_17 (C : xF) (s n : Nat) (z : xS) : x_to q_k53 C s (n + 1) 17 z = x_nx q_k53 C s n ((x_cv 20 54 4 6) C z) := x_to_at f53_17 C s n z
theorem f53_20 : x_fetch q_k53 20 = x_ri (.boolean) := rfl
theorem t53_20 (C : xF) (s n : Nat) (z : xS) : x_to q_k53 C s (n + 1) 20 z = x_nx q_k53 C s n ((x_ri (.boolean)) C z) := x_to_at f53_20 C s n z
theorem f54_0 : x_fetch q_k54 0 = x_ldi 1 2 := rfl
theorem t54_0 (C : xF) (s n : Nat) (z : xS) : x_to q_k54 C s (n + 1) 0 z = x_nx q_k54 C s n ((x_ldi 1 2) C z) := x_to_at f54_0 C s n z
theorem f54_1 : x_fetch q_k54 1 = x_lda 2 1 := rfl
theorem t54_1 (C : xF) (s n : Nat) (z : xS) : x_to q_k54 C s (n + 1) 1 z = x_nx q_k54 C s n ((x_lda 2 1) C z) := x_to_at f54_1 C s n z
theorem f54_2 : x_fetch q_k54 2 = x_gf 5 4 3 := rfl
theorem t54_2 (C : xF) (s n : Nat) (z : xS) : x_to q_k54 C s (n + 1) 2 z = x_nx q_k54 C s n ((x_gf 5 4 3) C z) := x_to_at f54_2 C s n z
theorem f54_5 : x_fetch q_k54 5 = x_st (x_icge 14 8) := rfl
theorem t54_5 (C : xF) (s n : Nat) (z : xS) : x_to q_k54 C s (n + 1) 5 z = x_nx q_k54 C s n ((x_st (x_icge 14 8)) C z) := x_to_at f54_5 C s n z
theorem f54_8 : x_fetch q_k54 8 = x_ldi 9 2 := rfl
theorem t54_8 (C : xF) (s n : Nat) (z : xS) : x_to q_k54 C s (n + 1) 8 z = x_nx q_k54 C s n ((x_ldi 9 2) C z) := x_to_at f54_8 C s n z
theorem f54_9 : x_fetch q_k54 9 = x_st (x_push 11 (.int (6))) := rfl
theorem t54_9 (C : xF) (s n : Nat) (z : xS) : x_to q_k54 C s (n + 1) 9 z = x_nx q_k54 C s n ((x_st (x_push 11 (.int (6)))) C z) := x_to_at f54_9 C s n z
theorem f54_11 : x_fetch q_k54 11 = x_st (x_iclt 16 14) := rfl
theorem t54_11 (C : xF) (s n : Nat) (z : xS) : x_to q_k54 C s (n + 1) 11 z = x_nx q_k54 C s n ((x_st (x_iclt 16 14)) C z) := x_to_at f54_11 C s n z
theorem f54_14 : x_fetch q_k54 14 = x_st (x_push 15 (.int (1))) := rfl
theorem t54_14 (C : xF) (s n : Nat) (z : xS) : x_to q_k54 C s (n + 1) 14 z = x_nx q_k54 C s n ((x_st (x_push 15 (.int (1)))) C z) := x_to_at f54_14 C s n z
theorem f54_15 : x_fetch q_k54 15 = x_ri (.boolean) := rfl
theorem t54_15 (C : xF) (s n : Nat) (z : xS) : x_to q_k54 C s (n + 1) 15 z = x_nx q_k54 C s n ((x_ri (.boolean)) C z) := x_to_at f54_15 C s n z
theorem f54_16 : x_fetch q_k54 16 = x_lda 17 0 := rfl
theorem t54_16 (C : xF) (s n : Nat) (z : xS) : x_to q_k54 C s (n + 1) 16 z = x_nx q_k54 C s n ((x_lda 17 0) C z) := x_to_at f54_16 C s n z
theorem f54_17 : x_fetch q_k54 17 = x_gf 20 6 2 := rfl
theorem t54_17 (C : xF) (s n : Nat) (z : xS) : x_to q_k54 C s (n + 1) 17 z = x_nx q_k54 C s n ((x_gf 20 6 2) C z) := x_to_at f54_17 C s n z
theorem f54_20 : x_fetch q_k54 20 = x_sti 22 4 := rfl
theorem t54_20 (C : xF) (s n : Nat) (z : xS) : x_to q_k54 C s (n + 1) 20 z = x_nx q_k54 C s n ((x_sti 22 4) C z) := x_to_at f54_20 C s n z
theorem f54_22 : x_fetch q_k54 22 = x_st (x_push 23 (.int (0))) := rfl
theorem t54_22 (C : xF) (s n : Nat) (z : xS) : x_to q_k54 C s (n + 1) 22 z = x_nx q_k54 C s n ((x_st (x_push 23 (.int (0)))) C z) := x_to_at f54_22 C s n z
theorem f54_23 : x_fetch q_k54 23 = x_sti 25 5 := rfl
theorem t54_23 (C : xF) (s n : Nat) (z : xS) : x_to q_k54 C s (n + 1) 23 z = x_nx q_k54 C s n ((x_sti 25 5) C z) := x_to_at f54_23 C s n z
theorem f54_25 : x_fetch q_k54 25 = x_ldi 27 5 := rfl
theorem t54_25 (C : xF) (s n : Nat) (z : xS) : x_to q_k54 C s (n + 1) 25 z = x_nx q_k54 C s n ((x_ldi 27 5) C z) := x_to_at f54_25 C s n z
theorem f54_27 : x_fetch q_k54 27 = x_lda 28 3 := rfl
theorem t54_27 (C : xF) (s n : Nat) (z : xS) : x_to q_k54 C s (n + 1) 27 z = x_nx q_k54 C s n ((x_lda 28 3) C z) := x_to_at f54_27 C s n z
theorem f54_28 : x_fetch q_k54 28 = x_gf 31 4 3 := rfl
theorem t54_28 (C : xF) (s n : Nat) (z : xS) : x_to q_k54 C s (n + 1) 28 z = x_nx q_k54 C s n ((x_gf 31 4 3) C z) := x_to_at f54_28 C s n z
theorem f54_31 : x_fetch q_k54 31 = x_st (x_icge 72 34) := rfl
theorem t54_31 (C : xF) (s n : Nat) (z : xS) : x_to q_k54 C s (n + 1) 31 z = x_nx q_k54 C s n ((x_st (x_icge 72 34)) C z) := x_to_at f54_31 C s n z
theorem f54_34 : x_fetch q_k54 34 = x_lda 35 0 := rfl
theorem t54_34 (C : xF) (s n : Nat) (z : xS) : x_to q_k54 C s (n + 1) 34 z = x_nx q_k54 C s n ((x_lda 35 0) C z) := x_to_at f54_34 C s n z
theorem f54_35 : x_fetch q_k54 35 = x_lda 36 1 := rfl
theorem t54_35 (C : xF) (s n : Nat) (z : xS) : x_to q_k54 C s (n + 1) 35 z = x_nx q_k54 C s n ((x_lda 36 1) C z) := x_to_at f54_35 C s n z
theorem f54_36 : x_fetch q_k54 36 = x_ldi 37 2 := rfl
theorem t54_36 (C : xF) (s n : Nat) (z : xS) : x_to q_k54 C s (n + 1) 36 z = x_nx q_k54 C s n ((x_ldi 37 2) C z) := x_to_at f54_36 C s n z
theorem f54_37 : x_fetch q_k54 37 = x_lda 38 3 := rfl
theorem t54_37 (C : xF) (s n : Nat) (z : xS) : x_to q_k54 C s (n + 1) 37 z = x_nx q_k54 C s n ((x_lda 38 3) C z) := x_to_at f54_37 C s n z
theorem f54_38 : x_fetch q_k54 38 = x_ldi 40 5 := rfl
theorem t54_38 (C : xF) (s n : Nat) (z : xS) : x_to q_k54 C s (n + 1) 38 z = x_nx q_k54 C s n ((x_ldi 40 5) C z) := x_to_at f54_38 C s n z
theorem f54_40 : x_fetch q_k54 40 = x_cv 43 55 5 6 := rfl
theorem t54_40 (C : xF) (s n : Nat) (z : xS) : x_to q_k54 C s (n + 1) 40 z = x_nx q_k54 C s n ((x_cv 43 55 5 6) C z) := x_to_at f54_40 C s n z
theorem f54_43 : x_fetch q_k54 43 = x_st (x_ifeq 60 46) := rfl
theorem t54_43 (C : xF) (s n : Nat) (z : xS) : x_to q_k54 C s (n + 1) 43 z = x_nx q_k54 C s n ((x_st (x_ifeq 60 46)) C z) := x_to_at f54_43 C s n z
theorem f54_46 : x_fetch q_k54 46 = x_lda 47 0 := rfl
theorem t54_46 (C : xF) (s n : Nat) (z : xS) : x_to q_k54 C s (n + 1) 46 z = x_nx q_k54 C s n ((x_lda 47 0) C z) := x_to_at f54_46 C s n z
theorem f54_47 : x_fetch q_k54 47 = x_lda 48 1 := rfl
theorem t54_47 (C : xF) (s n : Nat) (z : xS) : x_to q_k54 C s (n + 1) 47 z = x_nx q_k54 C s n ((x_lda 48 1) C z) := x_to_at f54_47 C s n z
theorem f54_48 : x_fetch q_k54 48 = x_ldi 49 2 := rfl
theorem t54_48 (C : xF) (s n : Nat) (z : xS) : x_to q_k54 C s (n + 1) 48 z = x_nx q_k54 C s n ((x_ldi 49 2) C z) := x_to_at f54_48 C s n z
theorem f54_49 : x_fetch q_k54 49 = x_st (x_push 50 (.int (1))) := rfl
theorem t54_49 (C : xF) (s n : Nat) (z : xS) : x_to q_k54 C s (n + 1) 49 z = x_nx q_k54 C s n ((x_st (x_push 50 (.int (1)))) C z) := x_to_at f54_49 C s n z
theorem f54_50 : x_fetch q_k54 50 = x_st (x_bin 51 (fun a b => a + b)) := rfl
theorem t54_50 (C : xF) (s n : Nat) (z : xS) : x_to q_k54 C s (n + 1) 50 z = x_nx q_k54 C s n ((x_st (x_bin 51 (fun a b => a + b))) C z) := x_to_at f54_50 C s n z
theorem f54_51 : x_fetch q_k54 51 = x_lda 52 3 := rfl
theorem t54_51 (C : xF) (s n : Nat) (z : xS) : x_to q_k54 C s (n + 1) 51 z = x_nx q_k54 C s n ((x_lda 52 3) C z) := x_to_at f54_51 C s n z
theorem f54_52 : x_fetch q_k54 52 = x_cv 55 54 4 6 := rfl
theorem t54_52 (C : xF) (s n : Nat) (z : xS) : x_to q_k54 C s (n + 1) 52 z = x_nx q_k54 C s n ((x_cv 55 54 4 6) C z) := x_to_at f54_52 C s n z
theorem f54_55 : x_fetch q_k54 55 = x_st (x_ifeq 60 58) := rfl
theorem t54_55 (C : xF) (s n : Nat) (z : xS) : x_to q_k54 C s (n + 1) 55 z = x_nx q_k54 C s n ((x_st (x_ifeq 60 58)) C z) := x_to_at f54_55 C s n z
theorem f54_58 : x_fetch q_k54 58 = x_st (x_push 59 (.int (1))) := rfl
theorem t54_58 (C : xF) (s n : Nat) (z : xS) : x_to q_k54 C s (n + 1) 58 z = x_nx q_k54 C s n ((x_st (x_push 59 (.int (1)))) C z) := x_to_at f54_58 C s n z
theorem f54_59 : x_fetch q_k54 59 = x_ri (.boolean) := rfl
theorem t54_59 (C : xF) (s n : Nat) (z : xS) : x_to q_k54 C s (n + 1) 59 z = x_nx q_k54 C s n ((x_ri (.boolean)) C z) := x_to_at f54_59 C s n z
theorem f54_60 : x_fetch q_k54 60 = x_lda 61 0 := rfl
theorem t54_60 (C : xF) (s n : Nat) (z : xS) : x_to q_k54 C s (n + 1) 60 z = x_nx q_k54 C s n ((x_lda 61 0) C z) := x_to_at f54_60 C s n z
theorem f54_61 : x_fetch q_k54 61 = x_ldi 63 4 := rfl
theorem t54_61 (C : xF) (s n : Nat) (z : xS) : x_to q_k54 C s (n + 1) 61 z = x_nx q_k54 C s n ((x_ldi 63 4) C z) := x_to_at f54_61 C s n z
theorem f54_63 : x_fetch q_k54 63 = x_cv 66 57 2 6 := rfl
theorem t54_63 (C : xF) (s n : Nat) (z : xS) : x_to q_k54 C s (n + 1) 63 z = x_nx q_k54 C s n ((x_cv 66 57 2 6) C z) := x_to_at f54_63 C s n z
theorem f54_66 : x_fetch q_k54 66 = x_iinc 69 5 (1) := rfl
theorem t54_66 (C : xF) (s n : Nat) (z : xS) : x_to q_k54 C s (n + 1) 66 z = x_nx q_k54 C s n ((x_iinc 69 5 (1)) C z) := x_to_at f54_66 C s n z
theorem f54_69 : x_fetch q_k54 69 = x_st (x_goto 25) := rfl
theorem t54_69 (C : xF) (s n : Nat) (z : xS) : x_to q_k54 C s (n + 1) 69 z = x_nx q_k54 C s n ((x_st (x_goto 25)) C z) := x_to_at f54_69 C s n z
theorem f54_72 : x_fetch q_k54 72 = x_st (x_push 73 (.int (0))) := rfl
theorem t54_72 (C : xF) (s n : Nat) (z : xS) : x_to q_k54 C s (n + 1) 72 z = x_nx q_k54 C s n ((x_st (x_push 73 (.int (0)))) C z) := x_to_at f54_72 C s n z
theorem f54_73 : x_fetch q_k54 73 = x_ri (.boolean) := rfl
theorem t54_73 (C : xF) (s n : Nat) (z : xS) : x_to q_k54 C s (n + 1) 73 z = x_nx q_k54 C s n ((x_ri (.boolean)) C z) := x_to_at f54_73 C s n z
theorem any_drop {m c : Nat} (h : c < m) (f : Nat → Bool) : ((List.range m).drop c).any f = (f c || ((List.range m).drop (c + 1)).any f) := by
  have e : (List.range m).drop c = c :: (List.range m).drop (c + 1) := by
    rw [List.drop_eq_getElem_cons (by simp; omega)]
    simp
  rw [e, List.any_cons]
theorem dfs_s {mt : Nat → Nat → (Int → List Int) → Option (Int → List Int)} {m r k : Nat} {b : Int → List Int} (g : (Int → List Int) → Bool) (hg : ∀ b', g b' = dfs mt m r (k + 1) b') : dfs mt m (r + 1) k b = (List.range m).any (fun c => match mt k c b with
    | none => false
    | some b' => g b') := by
  unfold dfs
  congr 1
  funext c
  cases mt k c b with
  | none => rfl
  | some b' => exact (hg b').symm
section MC
variable {N a : Nat} {D E : List (Int × List Int)} {SG EG BG : List Int} {oG : Int}
theorem MW.hz {w : Nat → xC} {vs : List Int} {b : Int → List Int} (h : MW w E vs b) : ∀ u, 0 ≤ u → u < 26 → ¬ u ∈ vs → b u = [] := fun u u0 u1 hu => by
  obtain ⟨Tm, Bn, _, _, _, bw⟩ := h
  exact ((bw.2.2.2.2.2 u u0 u1).1 hu).2
theorem ksMa_out {w w' : Nat → xC} (f : Fr ksMa w w') {j : Nat} (h : j < 24 ∨ 26 < j) : w' j = w j := f j (fun z => by
  unfold ksMa at z
  simp only [List.mem_cons, List.not_mem_nil, or_false] at z
  omega)
set_option maxHeartbeats 1000000 in
theorem m55 (d : Nat) (hN : 53 ≤ N) (ha : 53 ≤ a) {w : Nat → xC} {vs : List Int} {b : Int → List Int} (k c : Nat) (hk : k < D.length) (hcE : c < E.length) (gE : gC E) (hG : FM w N a SG EG BG D oG) (hL : LA w 7 E) (hM : MW w E vs b) :
    ∃ (w' : Nat → xC) (ex : List Int) (b' : Int → List Int) (ok : Bool), Fr ksMa w w' ∧ MW w' E (vs ++ ex) b' ∧ (∀ u ∈ vs, b' u = b u) ∧ O55 (mtL D E k c b) ok b' ∧ Xc (d + 4) 55 [.ref 27, .ref (a + 3), .int (iZ (k : Int)), .ref 10, .int (iZ (c : Int))] (hp w N) (some (.int (iZ (bZ ok))), hp w' N) := by
  obtain ⟨S, En, B, o, f1, f2, f3, f4, f5, f6, f7, f8, f9⟩ := hL.fm hN
  have hG' := hG
  obtain ⟨G1, G2, G3, G4, G5, G6, G7⟩ := hG'
  have e1 := G3.2.2 k hk
  have e2 := f3.2.2 c hcE
  have s1 := (G4.2.2 _ (lC_mem hk)).1
  have s2 := (f4 _ (lC_mem hcE)).1
  have X1 := m11 (N := N) (d + 2) (c : Int) f1 f2 (by omega) (by omega)
  rw [f3.st (by omega)] at X1
  have X1 : Xc (d + 3) 11 [.ref 10, .int (iZ (c : Int))] (hp w N) (some (.int (iZ (stC E c : Int))), hp w N) := X1
  have X2 := m11 (N := N) (d + 2) (k : Int) G1 G2 (by omega) (by omega)
  rw [G3.st (by omega)] at X2
  have ec := f3.2.1 c hcE
  have mc := stC_mono (C := E) (show c + 1 ≤ E.length from hcE)
  rw [stC_all] at mc
  have n1 := G2.1
  have n2 := G2.2.2.2
  have t4 : w 10 = cI 1 B := f1.2.2.2
  have t3 : w 9 = cI 0 En := f1.2.2.1
  have t1 := f1.1
  have n5 := f2.2.2.2
  have n6 := f2.2.2.1
  have key : ∃ (w' : Nat → xC) (ex : List Int) (b' : Int → List Int) (ok : Bool), Fr ksMa w w' ∧ MW w' E (vs ++ ex) b' ∧ (∀ u ∈ vs, b' u = b u) ∧ O55 (mtL D E k c b) ok b' ∧ Gx q_k55 (d + 3) 0 (lv_args 0 [.ref 27, .ref (a + 3), .int (iZ (k : Int)), .ref 10, .int (iZ (c : Int))], [], hp w N) (some (.int (iZ (bZ ok))), hp w' N) := by
    have hc : c1 (lv_args 0 [.ref 27, .ref (a + 3), .int (iZ (k : Int)), .ref 10, .int (iZ (c : Int))]) := by simp [c1, lv_args, Value.category]
    have l0 : x_lk (lv_args 0 [.ref 27, .ref (a + 3), .int (iZ (k : Int)), .ref 10, .int (iZ (c : Int))]) 0 = some (.ref 27) := rfl
    have l1 : x_lk (lv_args 0 [.ref 27, .ref (a + 3), .int (iZ (k : Int)), .ref 10, .int (iZ (c : Int))]) 1 = some (.ref (a + 3)) := rfl
    have l2 : x_lk (lv_args 0 [.ref 27, .ref (a + 3), .int (iZ (k : Int)), .ref 10, .int (iZ (c : Int))]) 2 = some (.int (iZ (k : Int))) := rfl
    have l3 : x_lk (lv_args 0 [.ref 27, .ref (a + 3), .int (iZ (k : Int)), .ref 10, .int (iZ (c : Int))]) 3 = some (.ref 10) := rfl
    have l4 : x_lk (lv_args 0 [.ref 27, .ref (a + 3), .int (iZ (k : Int)), .ref 10, .int (iZ (c : Int))]) 4 = some (.int (iZ (c : Int))) := rfl
    generalize lv_args 0 [.ref 27, .ref (a + 3), .int (iZ (k : Int)), .ref 10, .int (iZ (c : Int))] = lv at hc l0 l1 l2 l3 l4 ⊢
    unfold mtL
    obtain ⟨g1, g2, g3, g4⟩ := G1
    obtain ⟨u, hu⟩ : ∃ u, u = (lC D k).1 := ⟨_, rfl⟩
    obtain ⟨v, hv⟩ : ∃ v, v = (lC E c).1 := ⟨_, rfl⟩
    rw [← hu] at e1 s1 ⊢
    rw [← hv] at e2 s2 ⊢
    have u0 : 0 ≤ u := by omega
    have u1 : u ≤ 1 := by omega
    have v0 : 0 ≤ v := by omega
    have v1 : v ≤ 1 := by omega
    have k1 : (k : Int) < BG.length := by omega
    have c1_ : (c : Int) < B.length := by omega
    have c2_ : (c : Int) < En.length := by omega
    by_cases huv : u = v
    · rw [if_pos huv]
      have C5 := c1_st (i := 5) (v := .int (iZ (stC E c : Int))) rfl hc
      have C6 := c1_st (i := 6) (v := .int (iZ (stC E (c + 1) : Int))) rfl C5
      have C7 := c1_st (i := 7) (v := .int (iZ (stC D k : Int))) rfl C6
      have L : lv55 ((7, .int (iZ (stC D k : Int))) :: List.filter (x_keep 7) ((6, .int (iZ (stC E (c + 1) : Int))) :: List.filter (x_keep 6) ((5, .int (iZ (stC E c : Int))) :: lv.filter (x_keep 5)))) a k c ((stC E c + 0 : Nat) : Int) (stC E (c + 1) : Nat) ((stC D k + 0 : Nat) : Int) := by
        refine ⟨C7, ?_, ?_, ?_, ?_, ?_, ?_, ?_, ?_⟩
        · rw [lk_s C6, lk_s C5, lk_s hc]; exact l0
        · rw [lk_s C6, lk_s C5, lk_s hc]; exact l1
        · rw [lk_s C6, lk_s C5, lk_s hc]; exact l2
        · rw [lk_s C6, lk_s C5, lk_s hc]; exact l3
        · rw [lk_s C6, lk_s C5, lk_s hc]; exact l4
        · rw [lk_s C6, lk_s C5, lk_s hc]; rfl
        · rw [lk_s C6, lk_s C5]; rfl
        · rw [lk_s C6]; rfl
      obtain ⟨w', ex, b', ok, z1, z2, z3, z4, z5⟩ := l55 (N := N) d hN ha k c hk hcE gE (lC D k).2 1 0 0 (lC E c).2 vs b w _ rfl (by omega) rfl (by omega) (G4.2.2 _ (lC_mem hk)).2.1 (gE.2.2 _ (lC_mem hcE)).2.1 hG hL hM L
      refine ⟨w', ex, b', ok, z1, z2, z3, z4, Gx.run 60 (X1.and X2) (fun X mm => ?_) z5⟩
      obtain ⟨mm1, mm2⟩ := mm
      obtain ⟨sE, hsE⟩ : ∃ sE : Int, sE = (stC E c : Int) := ⟨_, rfl⟩
      obtain ⟨sE', hsE'⟩ : ∃ sE' : Int, sE' = (stC E (c + 1) : Int) := ⟨_, rfl⟩
      obtain ⟨sD, hsD⟩ : ∃ sD : Int, sD = (stC D k : Int) := ⟨_, rfl⟩
      obtain ⟨kk, hkk⟩ : ∃ kk : Int, kk = (k : Int) := ⟨_, rfl⟩
      obtain ⟨cc, hcc⟩ : ∃ cc : Int, cc = (c : Int) := ⟨_, rfl⟩
      rw [← hsE, ← hcc] at mm1
      rw [← hsD, ← hkk] at mm2
      rw [← hsE', ← hcc] at ec
      rw [← hkk] at l2 e1 k1
      rw [← hcc] at l4 e2 c1_ c2_
      rw [← hsE, ← hsE', ← hsD]
      have kk0 : 0 ≤ kk := by omega
      have cc0 : 0 ≤ cc := by omega
      subst huv
      simp (disch := first | (refine c1_id ?_; assumption) | (refine c1_st rfl ?_; repeat (first | assumption | refine c1_st rfl ?_)) | omega) [nx_l, nx_r, nx_n, x_st, x_push, x_bin, x_div, x_un, x_dup, x_pop, x_dup2, x_goto, x_ifeq, x_ifne, x_iflt, x_ifge, x_ifgt, x_ifle, x_iceq, x_icne, x_iclt, x_icge, x_icgt, x_icle, x_ifnull, x_ifnonnull, x_ldi, x_lda, x_sti, x_sta, x_iinc, x_gf, x_pf, x_ald, x_ast, x_aln, x_len, x_cl_, x_cv, x_cs, x_rc, x_r0, x_isT, x_oi, x_rv, x_ri, x_ra, Value.category, t55_0, t55_1, t55_4, t55_5, t55_6, t55_7, t55_10, t55_12, t55_13, t55_16, t55_17, t55_18, t55_19, t55_21, t55_24, t55_26, t55_27, t55_30, t55_32, t55_33, t55_35, t55_36, t55_37, t55_40, t55_42, t55_44, t55_45, t55_48, t55_49, t55_50, t55_53, t55_55, t55_57, t55_60, t55_61, t55_62, t55_63, t55_66, t55_68, t55_69, t55_71, t55_73, t55_74, t55_75, t55_77, t55_79, t55_80, t55_83, t55_85, t55_86, t55_89, t55_90, t55_93, t55_94, t55_96, t55_98, t55_101, t55_104, t55_105, t55_107, t55_110, t55_112, t55_113, t55_115, t55_118, t55_119, t55_121, t55_123, t55_126, t55_128, t55_130, t55_133, t55_134, t55_135, t55_137, t55_139, t55_142, t55_145, t55_147, t55_149, t55_152, t55_153, t55_156, t55_157, lk_s, hp_get, hp_set, uH_at, uH_ne, uH_upd, uH_swap, iZ_add, iZ_sub, iZ_mul, iZ_neg, iZ_lt, iZ_le, iZ_eq, iZ_div, iZ_of, ix_Z, gZ_map, gZ_mapI, gZ_map', le_0, le_s, sZ_map, sZ_len, bZ_0, bZ_inj, bZ_t, bZ_f, nr_i, nr_0, nr_1, nr_b, ft_i, ft_b, ft_0, ft_1, zl_0, zl_1, l0, l1, l2, l3, l4, g1, g4, t1, t3, t4, e1, e2, ec, mm1, mm2, -List.filter_filter, -List.getElem?_map, -List.getD_eq_getElem?_getD]
    · rw [if_neg huv]
      refine ⟨w, [], b, false, Fr.rf _ _, by rw [List.append_nil]; exact hM, fun _ _ => rfl, rfl, ?_⟩
      rw [bZ_f]
      obtain ⟨kk, hkk⟩ : ∃ kk : Int, kk = (k : Int) := ⟨_, rfl⟩
      obtain ⟨cc, hcc⟩ : ∃ cc : Int, cc = (c : Int) := ⟨_, rfl⟩
      rw [← hkk] at l2 e1 k1
      rw [← hcc] at l4 e2 c1_
      have kk0 : 0 ≤ kk := by omega
      have cc0 : 0 ≤ cc := by omega
      refine Gx.fin 40 Cs.tt (fun X _ => ?_)
      simp (disch := first | (refine c1_id ?_; assumption) | (refine c1_st rfl ?_; repeat (first | assumption | refine c1_st rfl ?_)) | omega) [nx_l, nx_r, nx_n, x_st, x_push, x_bin, x_div, x_un, x_dup, x_pop, x_dup2, x_goto, x_ifeq, x_ifne, x_iflt, x_ifge, x_ifgt, x_ifle, x_iceq, x_icne, x_iclt, x_icge, x_icgt, x_icle, x_ifnull, x_ifnonnull, x_ldi, x_lda, x_sti, x_sta, x_iinc, x_gf, x_pf, x_ald, x_ast, x_aln, x_len, x_cl_, x_cv, x_cs, x_rc, x_r0, x_isT, x_oi, x_rv, x_ri, x_ra, Value.category, t55_0, t55_1, t55_4, t55_5, t55_6, t55_7, t55_10, t55_12, t55_13, t55_16, t55_17, t55_18, t55_19, t55_21, t55_24, t55_26, t55_27, t55_30, t55_32, t55_33, t55_35, t55_36, t55_37, t55_40, t55_42, t55_44, t55_45, t55_48, t55_49, t55_50, t55_53, t55_55, t55_57, t55_60, t55_61, t55_62, t55_63, t55_66, t55_68, t55_69, t55_71, t55_73, t55_74, t55_75, t55_77, t55_79, t55_80, t55_83, t55_85, t55_86, t55_89, t55_90, t55_93, t55_94, t55_96, t55_98, t55_101, t55_104, t55_105, t55_107, t55_110, t55_112, t55_113, t55_115, t55_118, t55_119, t55_121, t55_123, t55_126, t55_128, t55_130, t55_133, t55_134, t55_135, t55_137, t55_139, t55_142, t55_145, t55_147, t55_149, t55_152, t55_153, t55_156, t55_157, lk_s, hp_get, hp_set, uH_at, uH_ne, uH_upd, uH_swap, iZ_add, iZ_sub, iZ_mul, iZ_neg, iZ_lt, iZ_le, iZ_eq, iZ_div, iZ_of, ix_Z, gZ_map, gZ_mapI, gZ_map', le_0, le_s, sZ_map, sZ_len, bZ_0, bZ_inj, bZ_t, bZ_f, nr_i, nr_0, nr_1, nr_b, ft_i, ft_b, ft_0, ft_1, zl_0, zl_1, l0, l1, l2, l3, l4, g1, g4, t1, t4, e1, e2, huv, -List.filter_filter, -List.getElem?_map, -List.getD_eq_getElem?_getD]
  obtain ⟨w', ex, b', ok, z1, z2, z3, z4, z5⟩ := key
  exact ⟨w', ex, b', ok, z1, z2, z3, z4, Xc.of rfl (by simp [lg_sl, Value.category]) z5 (MW.le z1 hM z2)⟩
def R54 (d N a : Nat) (D E : List (Int × List Int)) (r k : Nat) (vs : List Int) (b : Int → List Int) (w : Nat → xC) : Prop := ∃ (w' : Nat → xC) (ex : List Int) (b' : Int → List Int), Fr ksMa w w' ∧ MW w' E (vs ++ ex) b' ∧ (∀ u ∈ vs, b' u = b u) ∧ Xc (d + 5 + r) 54 [.ref 27, .ref (a + 3), .int (iZ (k : Int)), .ref 10] (hp w N) (some (.int (iZ (bZ (dfs (mtL D E) E.length r k b)))), hp w' N)
set_option maxHeartbeats 1000000 in
theorem l54 (d : Nat) (hN : 53 ≤ N) (ha : 53 ≤ a) (gE : gC E) (r k : Nat) (hkr : k + (r + 1) = D.length) (IH : ∀ (vs : List Int) (b : Int → List Int) (w : Nat → xC), FM w N a SG EG BG D oG → LA w 7 E → MW w E vs b → R54 d N a D E r (k + 1) vs b w) (vs : List Int) (b : Int → List Int) :
    ∀ (n c : Nat) (w : Nat → xC) (lv : xL), c + n = E.length → FM w N a SG EG BG D oG → LA w 7 E → MW w E vs b → c1 lv → x_lk lv 0 = some (.ref 27) → x_lk lv 1 = some (.ref (a + 3)) → x_lk lv 2 = some (.int (iZ (k : Int))) → x_lk lv 3 = some (.ref 10) → x_lk lv 4 = some (.int (iZ (vs.length : Int))) → x_lk lv 5 = some (.int (iZ (c : Int))) →
    ∃ (w' : Nat → xC) (ex : List Int) (b' : Int → List Int), Fr ksMa w w' ∧ MW w' E (vs ++ ex) b' ∧ (∀ u ∈ vs, b' u = b u) ∧ Gx q_k54 (d + 5 + r) 25 (lv, [], hp w N) (some (.int (iZ (bZ (((List.range E.length).drop c).any (fun c => match mtL D E k c b with
      | none => false
      | some b' => dfs (mtL D E) E.length r (k + 1) b'))))), hp w' N)
  | 0, c, w, lv, hn, hG, hL, hM, hc, l0, l1, l2, l3, l4, l5 => by
    refine ⟨w, [], b, Fr.rf _ _, by rw [List.append_nil]; exact hM, fun _ _ => rfl, ?_⟩
    rw [List.drop_eq_nil_of_le (by simp; omega)]
    show Gx q_k54 _ 25 _ (some (.int (iZ (bZ false))), _)
    rw [bZ_f]
    obtain ⟨S, En, B, o, f1, f2, f3, f4, f5, f6, f7, f8, f9⟩ := hL.fm hN
    have t1 := f1.1
    obtain ⟨cc, hcc⟩ : ∃ cc : Int, cc = (c : Int) := ⟨_, rfl⟩
    obtain ⟨n, hn'⟩ : ∃ n : Int, n = (E.length : Int) := ⟨_, rfl⟩
    rw [← hcc] at l5
    rw [← hn'] at t1
    have b1 : n ≤ cc := by omega
    have cc0 : 0 ≤ cc := by omega
    have cc9 : cc ≤ 6 := by omega
    have n0 : 0 ≤ n := by omega
    refine Gx.fin 20 Cs.tt (fun X _ => ?_)
    simp (disch := first | (refine c1_id ?_; assumption) | (refine c1_st rfl ?_; repeat (first | assumption | refine c1_st rfl ?_)) | omega) [nx_l, nx_r, nx_n, x_st, x_push, x_bin, x_div, x_un, x_dup, x_pop, x_dup2, x_goto, x_ifeq, x_ifne, x_iflt, x_ifge, x_ifgt, x_ifle, x_iceq, x_icne, x_iclt, x_icge, x_icgt, x_icle, x_ifnull, x_ifnonnull, x_ldi, x_lda, x_sti, x_sta, x_iinc, x_gf, x_pf, x_ald, x_ast, x_aln, x_len, x_cl_, x_cv, x_cs, x_rc, x_r0, x_isT, x_oi, x_rv, x_ri, x_ra, Value.category, t54_0, t54_1, t54_2, t54_5, t54_8, t54_9, t54_11, t54_14, t54_15, t54_16, t54_17, t54_20, t54_22, t54_23, t54_25, t54_27, t54_28, t54_31, t54_34, t54_35, t54_36, t54_37, t54_38, t54_40, t54_43, t54_46, t54_47, t54_48, t54_49, t54_50, t54_51, t54_52, t54_55, t54_58, t54_59, t54_60, t54_61, t54_63, t54_66, t54_69, t54_72, t54_73, lk_s, hp_get, hp_set, uH_at, uH_ne, uH_upd, uH_swap, iZ_add, iZ_sub, iZ_mul, iZ_neg, iZ_lt, iZ_le, iZ_eq, iZ_div, iZ_of, ix_Z, gZ_map, gZ_mapI, gZ_map', le_0, le_s, sZ_map, sZ_len, bZ_0, bZ_inj, bZ_t, bZ_f, nr_i, nr_0, nr_1, nr_b, ft_i, ft_b, ft_0, ft_1, zl_0, zl_1, zl_6, l3, l5, t1, b1, -List.filter_filter, -List.getElem?_map, -List.getD_eq_getElem?_getD]
  | n + 1, c, w, lv, hn, hG, hL, hM, hc, l0, l1, l2, l3, l4, l5 => by
    have hcE : c < E.length := by omega
    rw [any_drop hcE]
    obtain ⟨S, En, B, o, f1, f2, f3, f4, f5, f6, f7, f8, f9⟩ := hL.fm hN
    have t1 := f1.1
    have k1 := hG.2.2.2.1.1
    obtain ⟨w1, ex1, b1, ok1, y1, y2, y3, y4, y5⟩ := m55 (N := N) (d + 1 + r) hN ha k c (by omega) hcE gE hG hL hM
    rw [show d + 1 + r + 4 = d + 5 + r by omega] at y5
    have k24a := k24 hM
    have k24b := k24 y2
    have C5 := c1_st (i := 5) (v := .int (iZ ((c : Int) + 1))) rfl hc
    -- from 60 to the next round
    have next : ∀ {w2 : Nat → xC} {ex2 : List Int} {b2 : Int → List Int}, Fr ksMa w w2 → MW w2 E (vs ++ ex2) b2 → (∀ u ∈ vs, b2 u = b u) → ∃ (w' : Nat → xC) (ex : List Int) (b' : Int → List Int), Fr ksMa w w' ∧ MW w' E (vs ++ ex) b' ∧ (∀ u ∈ vs, b' u = b u) ∧ Gx q_k54 (d + 5 + r) 60 (lv, [], hp w2 N) (some (.int (iZ (bZ (((List.range E.length).drop (c + 1)).any (fun c => match mtL D E k c b with
      | none => false
      | some b' => dfs (mtL D E) E.length r (k + 1) b'))))), hp w' N) := fun {w2 ex2 b2} F M2 A2 => by
      have k24c := k24 M2
      obtain ⟨w3, u1, u2, u3⟩ := m57 (N := N) (d + 4 + r) hN M2 hM.hz A2
      rw [show d + 4 + r + 1 = d + 5 + r by omega] at u3
      have F3 := F.tr u1
      obtain ⟨w', ex, b', z1, z2, z3, z4⟩ := l54 d hN ha gE r k hkr IH vs b n (c + 1) w3 ((5, .int (iZ ((c : Int) + 1))) :: lv.filter (x_keep 5)) (by omega) (hG.mv (fun j j0 _ => ksMa_out F3 (by omega))) (hL.mv (fun j j0 j1 => ksMa_out F3 (by omega))) u2 C5 (by rw [lk_s hc]; exact l0) (by rw [lk_s hc]; exact l1) (by rw [lk_s hc]; exact l2) (by rw [lk_s hc]; exact l3) (by rw [lk_s hc]; exact l4) (by rw [lk_s hc]; rfl)
      refine ⟨w', ex, b', F3.tr z1, z2, z3, Gx.run 20 u3 (fun X mm => ?_) (Gx.run (pc := 69) (z := ((5, .int (iZ ((c : Int) + 1))) :: lv.filter (x_keep 5), [], hp w3 N)) 5 Cs.tt (fun X _ => ?_) z4)⟩
      · simp (disch := first | (refine c1_id ?_; assumption) | (refine c1_st rfl ?_; repeat (first | assumption | refine c1_st rfl ?_)) | omega) [nx_l, nx_r, nx_n, x_st, x_push, x_bin, x_div, x_un, x_dup, x_pop, x_dup2, x_goto, x_ifeq, x_ifne, x_iflt, x_ifge, x_ifgt, x_ifle, x_iceq, x_icne, x_iclt, x_icge, x_icgt, x_icle, x_ifnull, x_ifnonnull, x_ldi, x_lda, x_sti, x_sta, x_iinc, x_gf, x_pf, x_ald, x_ast, x_aln, x_len, x_cl_, x_cv, x_cs, x_rc, x_r0, x_isT, x_oi, x_rv, x_ri, x_ra, Value.category, t54_0, t54_1, t54_2, t54_5, t54_8, t54_9, t54_11, t54_14, t54_15, t54_16, t54_17, t54_20, t54_22, t54_23, t54_25, t54_27, t54_28, t54_31, t54_34, t54_35, t54_36, t54_37, t54_38, t54_40, t54_43, t54_46, t54_47, t54_48, t54_49, t54_50, t54_51, t54_52, t54_55, t54_58, t54_59, t54_60, t54_61, t54_63, t54_66, t54_69, t54_72, t54_73, lk_s, hp_get, hp_set, uH_at, uH_ne, uH_upd, uH_swap, iZ_add, iZ_sub, iZ_mul, iZ_neg, iZ_lt, iZ_le, iZ_eq, iZ_div, iZ_of, ix_Z, gZ_map, gZ_mapI, gZ_map', le_0, le_s, sZ_map, sZ_len, bZ_0, bZ_inj, bZ_t, bZ_f, nr_i, nr_0, nr_1, nr_b, ft_i, ft_b, ft_0, ft_1, zl_0, zl_1, zl_6, l0, l4, l5, k24c, mm, MO, -List.filter_filter, -List.getElem?_map, -List.getD_eq_getElem?_getD]
      · simp (disch := first | (refine c1_id ?_; assumption) | (refine c1_st rfl ?_; repeat (first | assumption | refine c1_st rfl ?_)) | omega) [nx_l, nx_r, nx_n, x_st, x_push, x_bin, x_div, x_un, x_dup, x_pop, x_dup2, x_goto, x_ifeq, x_ifne, x_iflt, x_ifge, x_ifgt, x_ifle, x_iceq, x_icne, x_iclt, x_icge, x_icgt, x_icle, x_ifnull, x_ifnonnull, x_ldi, x_lda, x_sti, x_sta, x_iinc, x_gf, x_pf, x_ald, x_ast, x_aln, x_len, x_cl_, x_cv, x_cs, x_rc, x_r0, x_isT, x_oi, x_rv, x_ri, x_ra, Value.category, t54_0, t54_1, t54_2, t54_5, t54_8, t54_9, t54_11, t54_14, t54_15, t54_16, t54_17, t54_20, t54_22, t54_23, t54_25, t54_27, t54_28, t54_31, t54_34, t54_35, t54_36, t54_37, t54_38, t54_40, t54_43, t54_46, t54_47, t54_48, t54_49, t54_50, t54_51, t54_52, t54_55, t54_58, t54_59, t54_60, t54_61, t54_63, t54_66, t54_69, t54_72, t54_73, lk_s, hp_get, hp_set, uH_at, uH_ne, uH_upd, uH_swap, iZ_add, iZ_sub, iZ_mul, iZ_neg, iZ_lt, iZ_le, iZ_eq, iZ_div, iZ_of, ix_Z, gZ_map, gZ_mapI, gZ_map', le_0, le_s, sZ_map, sZ_len, bZ_0, bZ_inj, bZ_t, bZ_f, nr_i, nr_0, nr_1, nr_b, ft_i, ft_b, ft_0, ft_1, zl_0, zl_1, zl_6, -List.filter_filter, -List.getElem?_map, -List.getD_eq_getElem?_getD]
    obtain ⟨cc, hcc⟩ : ∃ cc : Int, cc = (c : Int) := ⟨_, rfl⟩
    obtain ⟨nn, hnn⟩ : ∃ n : Int, n = (E.length : Int) := ⟨_, rfl⟩
    have e1 : ¬ nn ≤ cc := by omega
    have cc0 : 0 ≤ cc := by omega
    have nn9 : nn ≤ 6 := by omega
    rw [← hnn] at t1
    cases ok1 with
    | false =>
      have em : mtL D E k c b = none := by
        cases hh : mtL D E k c b with
        | none => rfl
        | some z =>
          rw [hh] at y4
          cases y4.1
      rw [em, Bool.false_or]
      obtain ⟨w', ex, b', z1, z2, z3, z4⟩ := next y1 y2 y3
      refine ⟨w', ex, b', z1, z2, z3, Gx.run 40 y5 (fun X mm => ?_) z4⟩
      rw [bZ_f] at mm
      rw [← hcc] at l5 mm
      simp (disch := first | (refine c1_id ?_; assumption) | (refine c1_st rfl ?_; repeat (first | assumption | refine c1_st rfl ?_)) | omega) [nx_l, nx_r, nx_n, x_st, x_push, x_bin, x_div, x_un, x_dup, x_pop, x_dup2, x_goto, x_ifeq, x_ifne, x_iflt, x_ifge, x_ifgt, x_ifle, x_iceq, x_icne, x_iclt, x_icge, x_icgt, x_icle, x_ifnull, x_ifnonnull, x_ldi, x_lda, x_sti, x_sta, x_iinc, x_gf, x_pf, x_ald, x_ast, x_aln, x_len, x_cl_, x_cv, x_cs, x_rc, x_r0, x_isT, x_oi, x_rv, x_ri, x_ra, Value.category, t54_0, t54_1, t54_2, t54_5, t54_8, t54_9, t54_11, t54_14, t54_15, t54_16, t54_17, t54_20, t54_22, t54_23, t54_25, t54_27, t54_28, t54_31, t54_34, t54_35, t54_36, t54_37, t54_38, t54_40, t54_43, t54_46, t54_47, t54_48, t54_49, t54_50, t54_51, t54_52, t54_55, t54_58, t54_59, t54_60, t54_61, t54_63, t54_66, t54_69, t54_72, t54_73, lk_s, hp_get, hp_set, uH_at, uH_ne, uH_upd, uH_swap, iZ_add, iZ_sub, iZ_mul, iZ_neg, iZ_lt, iZ_le, iZ_eq, iZ_div, iZ_of, ix_Z, gZ_map, gZ_mapI, gZ_map', le_0, le_s, sZ_map, sZ_len, bZ_0, bZ_inj, bZ_t, bZ_f, nr_i, nr_0, nr_1, nr_b, ft_i, ft_b, ft_0, ft_1, zl_0, zl_1, zl_6, l0, l1, l2, l3, l4, l5, t1, e1, k24a, mm, MO, -List.filter_filter, -List.getElem?_map, -List.getD_eq_getElem?_getD]
    | true =>
      have em : mtL D E k c b = some b1 := by
        cases hh : mtL D E k c b with
        | none =>
          rw [hh] at y4
          cases y4
        | some z =>
          rw [hh] at y4
          rw [y4.2]
      rw [em]
      obtain ⟨w2, ex2, b2, u1, u2, u3, u4⟩ := IH (vs ++ ex1) b1 w1 (hG.mv (fun j j0 _ => ksMa_out y1 (by omega))) (hL.mv (fun j j0 j1 => ksMa_out y1 (by omega))) y2
      have t1b : w1 7 = .inr (4, [.ref 11, .ref 12, .ref 13, .int (iZ nn), .int (iZ (flt E).length), .int (iZ o)]) := by
        rw [ksMa_out y1 (by omega)]
        exact t1
      rw [show ((k + 1 : Nat) : Int) = (k : Int) + 1 by omega] at u4
      cases hd : dfs (mtL D E) E.length r (k + 1) b1 with
      | true =>
        rw [hd, bZ_t] at u4
        refine ⟨w2, ex1 ++ ex2, b2, y1.tr u1, by rw [← List.append_assoc]; exact u2, fun u hu => by rw [u3 u (List.mem_append_left _ hu)]; exact y3 u hu, ?_⟩
        dsimp only
        rw [hd, Bool.true_or, bZ_t]
        refine Gx.fin 60 (y5.and u4) (fun X mm => ?_)
        obtain ⟨mm1, mm2⟩ := mm
        rw [bZ_t] at mm1
        rw [← hcc] at l5 mm1
        simp (disch := first | (refine c1_id ?_; assumption) | (refine c1_st rfl ?_; repeat (first | assumption | refine c1_st rfl ?_)) | omega) [nx_l, nx_r, nx_n, x_st, x_push, x_bin, x_div, x_un, x_dup, x_pop, x_dup2, x_goto, x_ifeq, x_ifne, x_iflt, x_ifge, x_ifgt, x_ifle, x_iceq, x_icne, x_iclt, x_icge, x_icgt, x_icle, x_ifnull, x_ifnonnull, x_ldi, x_lda, x_sti, x_sta, x_iinc, x_gf, x_pf, x_ald, x_ast, x_aln, x_len, x_cl_, x_cv, x_cs, x_rc, x_r0, x_isT, x_oi, x_rv, x_ri, x_ra, Value.category, t54_0, t54_1, t54_2, t54_5, t54_8, t54_9, t54_11, t54_14, t54_15, t54_16, t54_17, t54_20, t54_22, t54_23, t54_25, t54_27, t54_28, t54_31, t54_34, t54_35, t54_36, t54_37, t54_38, t54_40, t54_43, t54_46, t54_47, t54_48, t54_49, t54_50, t54_51, t54_52, t54_55, t54_58, t54_59, t54_60, t54_61, t54_63, t54_66, t54_69, t54_72, t54_73, lk_s, hp_get, hp_set, uH_at, uH_ne, uH_upd, uH_swap, iZ_add, iZ_sub, iZ_mul, iZ_neg, iZ_lt, iZ_le, iZ_eq, iZ_div, iZ_of, ix_Z, gZ_map, gZ_mapI, gZ_map', le_0, le_s, sZ_map, sZ_len, bZ_0, bZ_inj, bZ_t, bZ_f, nr_i, nr_0, nr_1, nr_b, ft_i, ft_b, ft_0, ft_1, zl_0, zl_1, zl_6, l0, l1, l2, l3, l4, l5, t1, e1, k24a, k24b, mm1, mm2, MO, -List.filter_filter, -List.getElem?_map, -List.getD_eq_getElem?_getD]
      | false =>
        rw [hd, bZ_f] at u4
        dsimp only
        rw [hd, Bool.false_or]
        obtain ⟨w', ex, b', z1, z2, z3, z4⟩ := next (ex2 := ex1 ++ ex2) (y1.tr u1) (by rw [← List.append_assoc]; exact u2) (fun u hu => by rw [u3 u (List.mem_append_left _ hu)]; exact y3 u hu)
        refine ⟨w', ex, b', z1, z2, z3, Gx.run 60 (y5.and u4) (fun X mm => ?_) z4⟩
        obtain ⟨mm1, mm2⟩ := mm
        rw [bZ_t] at mm1
        rw [← hcc] at l5 mm1
        simp (disch := first | (refine c1_id ?_; assumption) | (refine c1_st rfl ?_; repeat (first | assumption | refine c1_st rfl ?_)) | omega) [nx_l, nx_r, nx_n, x_st, x_push, x_bin, x_div, x_un, x_dup, x_pop, x_dup2, x_goto, x_ifeq, x_ifne, x_iflt, x_ifge, x_ifgt, x_ifle, x_iceq, x_icne, x_iclt, x_icge, x_icgt, x_icle, x_ifnull, x_ifnonnull, x_ldi, x_lda, x_sti, x_sta, x_iinc, x_gf, x_pf, x_ald, x_ast, x_aln, x_len, x_cl_, x_cv, x_cs, x_rc, x_r0, x_isT, x_oi, x_rv, x_ri, x_ra, Value.category, t54_0, t54_1, t54_2, t54_5, t54_8, t54_9, t54_11, t54_14, t54_15, t54_16, t54_17, t54_20, t54_22, t54_23, t54_25, t54_27, t54_28, t54_31, t54_34, t54_35, t54_36, t54_37, t54_38, t54_40, t54_43, t54_46, t54_47, t54_48, t54_49, t54_50, t54_51, t54_52, t54_55, t54_58, t54_59, t54_60, t54_61, t54_63, t54_66, t54_69, t54_72, t54_73, lk_s, hp_get, hp_set, uH_at, uH_ne, uH_upd, uH_swap, iZ_add, iZ_sub, iZ_mul, iZ_neg, iZ_lt, iZ_le, iZ_eq, iZ_div, iZ_of, ix_Z, gZ_map, gZ_mapI, gZ_map', le_0, le_s, sZ_map, sZ_len, bZ_0, bZ_inj, bZ_t, bZ_f, nr_i, nr_0, nr_1, nr_b, ft_i, ft_b, ft_0, ft_1, zl_0, zl_1, zl_6, l0, l1, l2, l3, l4, l5, t1, e1, k24a, k24b, mm1, mm2, MO, -List.filter_filter, -List.getElem?_map, -List.getD_eq_getElem?_getD]
set_option maxHeartbeats 1000000 in
theorem S54 (d : Nat) (hN : 53 ≤ N) (ha : 53 ≤ a) (gE : gC E) : ∀ (r k : Nat) (vs : List Int) (b : Int → List Int) (w : Nat → xC), k + r = D.length → FM w N a SG EG BG D oG → LA w 7 E → MW w E vs b → R54 d N a D E r k vs b w
  | 0, k, vs, b, w, hk, hG, hL, hM => by
    refine ⟨w, [], b, Fr.rf _ _, by rw [List.append_nil]; exact hM, fun _ _ => rfl, ?_⟩
    show Xc (d + 5) 54 _ _ (some (.int (iZ (bZ true))), _)
    rw [bZ_t]
    have d6 := hG.2.2.2.1.1
    have g1 := hG.1.1
    have n1 := hG.2.1.1
    refine Xc.of rfl (by simp [lg_sl, Value.category]) ?_ (x_le.rf)
    have hc : c1 (lv_args 0 [.ref 27, .ref (a + 3), .int (iZ (k : Int)), .ref 10]) := by simp [c1, lv_args, Value.category]
    have l0 : x_lk (lv_args 0 [.ref 27, .ref (a + 3), .int (iZ (k : Int)), .ref 10]) 0 = some (.ref 27) := rfl
    have l1 : x_lk (lv_args 0 [.ref 27, .ref (a + 3), .int (iZ (k : Int)), .ref 10]) 1 = some (.ref (a + 3)) := rfl
    have l2 : x_lk (lv_args 0 [.ref 27, .ref (a + 3), .int (iZ (k : Int)), .ref 10]) 2 = some (.int (iZ (k : Int))) := rfl
    have l3 : x_lk (lv_args 0 [.ref 27, .ref (a + 3), .int (iZ (k : Int)), .ref 10]) 3 = some (.ref 10) := rfl
    generalize lv_args 0 [.ref 27, .ref (a + 3), .int (iZ (k : Int)), .ref 10] = lv at hc l0 l1 l2 l3
    obtain ⟨kk, hkk⟩ : ∃ kk : Int, kk = (k : Int) := ⟨_, rfl⟩
    obtain ⟨n, hn'⟩ : ∃ n : Int, n = (D.length : Int) := ⟨_, rfl⟩
    rw [← hkk] at l2
    rw [← hn'] at g1
    have b1 : n ≤ kk := by omega
    have k0 : 0 ≤ kk := by omega
    have k9 : kk ≤ 6 := by omega
    have n0 : 0 ≤ n := by omega
    refine Gx.fin 20 Cs.tt (fun X _ => ?_)
    simp (disch := first | (refine c1_id ?_; assumption) | (refine c1_st rfl ?_; repeat (first | assumption | refine c1_st rfl ?_)) | omega) [nx_l, nx_r, nx_n, x_st, x_push, x_bin, x_div, x_un, x_dup, x_pop, x_dup2, x_goto, x_ifeq, x_ifne, x_iflt, x_ifge, x_ifgt, x_ifle, x_iceq, x_icne, x_iclt, x_icge, x_icgt, x_icle, x_ifnull, x_ifnonnull, x_ldi, x_lda, x_sti, x_sta, x_iinc, x_gf, x_pf, x_ald, x_ast, x_aln, x_len, x_cl_, x_cv, x_cs, x_rc, x_r0, x_isT, x_oi, x_rv, x_ri, x_ra, Value.category, t54_0, t54_1, t54_2, t54_5, t54_8, t54_9, t54_11, t54_14, t54_15, t54_16, t54_17, t54_20, t54_22, t54_23, t54_25, t54_27, t54_28, t54_31, t54_34, t54_35, t54_36, t54_37, t54_38, t54_40, t54_43, t54_46, t54_47, t54_48, t54_49, t54_50, t54_51, t54_52, t54_55, t54_58, t54_59, t54_60, t54_61, t54_63, t54_66, t54_69, t54_72, t54_73, lk_s, hp_get, hp_set, uH_at, uH_ne, uH_upd, uH_swap, iZ_add, iZ_sub, iZ_mul, iZ_neg, iZ_lt, iZ_le, iZ_eq, iZ_div, iZ_of, ix_Z, gZ_map, gZ_mapI, gZ_map', le_0, le_s, sZ_map, sZ_len, bZ_0, bZ_inj, bZ_t, bZ_f, nr_i, nr_0, nr_1, nr_b, ft_i, ft_b, ft_0, ft_1, zl_0, zl_1, zl_6, l1, l2, g1, b1, -List.filter_filter, -List.getElem?_map, -List.getD_eq_getElem?_getD]
  | r + 1, k, vs, b, w, hk, hG, hL, hM => by
    have IH := fun vs b w hG hL hM => S54 d hN ha gE r (k + 1) vs b w (by omega) hG hL hM
    have d6 := hG.2.2.2.1.1
    have g1 := hG.1.1
    have n1 := hG.2.1.1
    have k24a := k24 hM
    have key : ∃ (w' : Nat → xC) (ex : List Int) (b' : Int → List Int), Fr ksMa w w' ∧ MW w' E (vs ++ ex) b' ∧ (∀ u ∈ vs, b' u = b u) ∧ Gx q_k54 (d + 5 + r) 0 (lv_args 0 [.ref 27, .ref (a + 3), .int (iZ (k : Int)), .ref 10], [], hp w N) (some (.int (iZ (bZ (dfs (mtL D E) E.length (r + 1) k b)))), hp w' N) := by
      have hc : c1 (lv_args 0 [.ref 27, .ref (a + 3), .int (iZ (k : Int)), .ref 10]) := by simp [c1, lv_args, Value.category]
      have l0 : x_lk (lv_args 0 [.ref 27, .ref (a + 3), .int (iZ (k : Int)), .ref 10]) 0 = some (.ref 27) := rfl
      have l1 : x_lk (lv_args 0 [.ref 27, .ref (a + 3), .int (iZ (k : Int)), .ref 10]) 1 = some (.ref (a + 3)) := rfl
      have l2 : x_lk (lv_args 0 [.ref 27, .ref (a + 3), .int (iZ (k : Int)), .ref 10]) 2 = some (.int (iZ (k : Int))) := rfl
      have l3 : x_lk (lv_args 0 [.ref 27, .ref (a + 3), .int (iZ (k : Int)), .ref 10]) 3 = some (.ref 10) := rfl
      generalize lv_args 0 [.ref 27, .ref (a + 3), .int (iZ (k : Int)), .ref 10] = lv at hc l0 l1 l2 l3 ⊢
      have C4 := c1_st (i := 4) (v := .int (iZ (vs.length : Int))) rfl hc
      have C5 := c1_st (i := 5) (v := .int (iZ 0)) rfl C4
      obtain ⟨w', ex, b', z1, z2, z3, z4⟩ := l54 (N := N) d hN ha gE r k (by omega) IH vs b E.length 0 w ((5, .int (iZ 0)) :: List.filter (x_keep 5) ((4, .int (iZ (vs.length : Int))) :: lv.filter (x_keep 4))) (by omega) hG hL hM C5 (by rw [lk_s C4, lk_s hc]; exact l0) (by rw [lk_s C4, lk_s hc]; exact l1) (by rw [lk_s C4, lk_s hc]; exact l2) (by rw [lk_s C4, lk_s hc]; exact l3) (by rw [lk_s C4, lk_s hc]; rfl) (by rw [lk_s C4]; rfl)
      rw [List.drop_zero] at z4
      have ed : dfs (mtL D E) E.length (r + 1) k b = (List.range E.length).any (fun c => match mtL D E k c b with
        | none => false
        | some b' => dfs (mtL D E) E.length r (k + 1) b') := by
        exact dfs_s (fun b' => dfs (mtL D E) E.length r (k + 1) b') (fun _ => rfl)
      rw [ed]
      refine ⟨w', ex, b', z1, z2, z3, Gx.run 40 Cs.tt (fun X _ => ?_) z4⟩
      obtain ⟨kk, hkk⟩ : ∃ kk : Int, kk = (k : Int) := ⟨_, rfl⟩
      obtain ⟨n, hn'⟩ : ∃ n : Int, n = (D.length : Int) := ⟨_, rfl⟩
      rw [← hkk] at l2
      rw [← hn'] at g1
      have b1 : ¬ n ≤ kk := by omega
      have b2 : kk < 6 := by omega
      have k0 : 0 ≤ kk := by omega
      have n9 : n ≤ 6 := by omega
      simp (disch := first | (refine c1_id ?_; assumption) | (refine c1_st rfl ?_; repeat (first | assumption | refine c1_st rfl ?_)) | omega) [nx_l, nx_r, nx_n, x_st, x_push, x_bin, x_div, x_un, x_dup, x_pop, x_dup2, x_goto, x_ifeq, x_ifne, x_iflt, x_ifge, x_ifgt, x_ifle, x_iceq, x_icne, x_iclt, x_icge, x_icgt, x_icle, x_ifnull, x_ifnonnull, x_ldi, x_lda, x_sti, x_sta, x_iinc, x_gf, x_pf, x_ald, x_ast, x_aln, x_len, x_cl_, x_cv, x_cs, x_rc, x_r0, x_isT, x_oi, x_rv, x_ri, x_ra, Value.category, t54_0, t54_1, t54_2, t54_5, t54_8, t54_9, t54_11, t54_14, t54_15, t54_16, t54_17, t54_20, t54_22, t54_23, t54_25, t54_27, t54_28, t54_31, t54_34, t54_35, t54_36, t54_37, t54_38, t54_40, t54_43, t54_46, t54_47, t54_48, t54_49, t54_50, t54_51, t54_52, t54_55, t54_58, t54_59, t54_60, t54_61, t54_63, t54_66, t54_69, t54_72, t54_73, lk_s, hp_get, hp_set, uH_at, uH_ne, uH_upd, uH_swap, iZ_add, iZ_sub, iZ_mul, iZ_neg, iZ_lt, iZ_le, iZ_eq, iZ_div, iZ_of, ix_Z, gZ_map, gZ_mapI, gZ_map', le_0, le_s, sZ_map, sZ_len, bZ_0, bZ_inj, bZ_t, bZ_f, nr_i, nr_0, nr_1, nr_b, ft_i, ft_b, ft_0, ft_1, zl_0, zl_1, zl_6, l0, l1, l2, g1, b1, b2, k24a, MO, -List.filter_filter, -List.getElem?_map, -List.getD_eq_getElem?_getD]
    obtain ⟨w', ex, b', z1, z2, z3, z4⟩ := key
    exact ⟨w', ex, b', z1, z2, z3, Xc.of rfl (by simp [lg_sl, Value.category]) z4 (MW.le z1 hM z2)⟩
def MI (w : Nat → xC) : Prop := ∃ (mn : Int) (Tm Bn : List Int), w 24 = MO mn ∧ w 25 = cI 0 Tm ∧ Tm.length = 26 ∧ w 26 = cI 0 Bn ∧ Bn.length = 26
theorem MW.mi {w : Nat → xC} {vs : List Int} {b : Int → List Int} (h : MW w E vs b) : MI w := by
  obtain ⟨Tm, Bn, h1, h2, h3, h4, h5, _⟩ := h
  exact ⟨_, Tm, Bn, h1, h2, h4, h3, h5⟩
theorem m53 (d : Nat) (hN : 53 ≤ N) (ha : 53 ≤ a) {w : Nat → xC} (gE : gC E) (hG : FM w N a SG EG BG D oG) (hL : LA w 7 E) (hI : MI w) :
    ∃ w', Fr ksMa w w' ∧ MI w' ∧ Xc (d + 12) 53 [.ref 27, .ref (a + 3), .ref 10] (hp w N) (some (.int (iZ (bZ (dfs (mtL D E) E.length D.length 0 (fun _ => []))))), hp w' N) := by
  obtain ⟨mn, Tm, Bn, h1, h2, h3, h4, h5⟩ := hI
  have X1 := m148 (w := w) (N := N) (a := 25) (d + 10) h2 (by omega) (by omega) (-1)
  rw [h3] at X1
  obtain ⟨w1, hw1⟩ : ∃ w1, w1 = uH w 25 (cI 0 (List.replicate 26 (-1))) := ⟨_, rfl⟩
  rw [← hw1] at X1
  obtain ⟨w2, hw2⟩ : ∃ w2, w2 = uH w1 24 (MO 0) := ⟨_, rfl⟩
  have F2 : Fr ksMa w w2 := by rw [hw2, hw1]; exact ((Fr.rf _ _).up (by decide)).up (by decide)
  have M2 : MW w2 E [] (fun _ => []) := by
    refine ⟨List.replicate 26 (-1), Bn, by rw [hw2, uH_at]; rfl, by rw [hw2, uH_ne (by decide), hw1, uH_at], by rw [hw2, uH_ne (by decide), hw1, uH_ne (by decide)]; exact h4, by simp, h5, List.nodup_nil, fun v hv => (by cases hv), fun i hi => absurd hi (Nat.not_lt_zero _), fun v v0 v1 => ⟨fun _ => ⟨gZ_rep v0 v1, rfl⟩, fun z => by cases z⟩⟩
  obtain ⟨w', ex, b', z1, z2, z3, z4⟩ := S54 (N := N) d hN ha gE D.length 0 [] (fun _ => []) w2 (by omega) (hG.mv (fun j j0 _ => ksMa_out F2 (by omega))) (hL.mv (fun j j0 j1 => ksMa_out F2 (by omega))) M2
  have d6 := hG.2.2.2.1.1
  have z5 : Xc (d + 11) 54 [.ref 27, .ref (a + 3), .int (iZ ((0 : Nat) : Int)), .ref 10] (hp w2 N) (some (.int (iZ (bZ (dfs (mtL D E) E.length D.length 0 (fun _ => []))))), hp w' N) := Cs.up z4 (by omega)
  have hmi : MI w' := z2.mi
  refine ⟨w', F2.tr z1, hmi, ?_⟩
  have hle : x_le (hp w N) (hp w' N) := hp_le (Nat.le_refl _) (fun j _ => by
    by_cases hj : j ∈ ksMa
    · obtain ⟨mn', Tm', Bn', k1, k2, k3, k4, k5⟩ := hmi
      unfold ksMa at hj
      simp only [List.mem_cons, List.not_mem_nil, or_false] at hj
      rcases hj with rfl | rfl | rfl
      · rw [h1, k1]; simp [x_c1]
      · rw [h2, k2]; simp [x_c1, h3, k3]
      · rw [h4, k4]; simp [x_c1, h5, k5]
    · rw [(F2.tr z1) j hj]
      exact Nat.le_refl _)
  refine Xc.of rfl (by simp [lg_sl, Value.category]) ?_ (hle)
  have hc : c1 (lv_args 0 [.ref 27, .ref (a + 3), .ref 10]) := by simp [c1, lv_args, Value.category]
  have l0 : x_lk (lv_args 0 [.ref 27, .ref (a + 3), .ref 10]) 0 = some (.ref 27) := rfl
  have l1 : x_lk (lv_args 0 [.ref 27, .ref (a + 3), .ref 10]) 1 = some (.ref (a + 3)) := rfl
  have l2 : x_lk (lv_args 0 [.ref 27, .ref (a + 3), .ref 10]) 2 = some (.ref 10) := rfl
  generalize lv_args 0 [.ref 27, .ref (a + 3), .ref 10] = lv at hc l0 l1 l2
  refine Gx.fin 40 (X1.and z5) (fun X mm => ?_)
  obtain ⟨mm1, mm2⟩ := mm
  have e24 : w1 24 = MO mn := by rw [hw1, uH_ne (by decide)]; exact h1
  have e24' : w2 24 = MO 0 := by rw [hw2, uH_at]
  rw [show (((0 : Nat) : Int)) = 0 from rfl] at mm2
  rw [hw2] at mm2
  generalize dfs (mtL D E) E.length D.length 0 (fun _ => []) = bb at mm2 ⊢
  cases bb with
  | true =>
    rw [bZ_t] at mm2 ⊢
    simp (disch := first | (refine c1_id ?_; assumption) | (refine c1_st rfl ?_; repeat (first | assumption | refine c1_st rfl ?_)) | omega) [nx_l, nx_r, nx_n, x_st, x_push, x_bin, x_div, x_un, x_dup, x_pop, x_dup2, x_goto, x_ifeq, x_ifne, x_iflt, x_ifge, x_ifgt, x_ifle, x_iceq, x_icne, x_iclt, x_icge, x_icgt, x_icle, x_ifnull, x_ifnonnull, x_ldi, x_lda, x_sti, x_sta, x_iinc, x_gf, x_pf, x_ald, x_ast, x_aln, x_len, x_cl_, x_cv, x_cs, x_rc, x_r0, x_isT, x_oi, x_rv, x_ri, x_ra, Value.category, t53_0, t53_1, t53_4, t53_5, t53_8, t53_9, t53_10, t53_13, t53_14, t53_15, t53_16, t53_17, t53_20, lk_s, hp_get, hp_set, uH_at, uH_ne, uH_upd, uH_swap, iZ_add, iZ_sub, iZ_mul, iZ_neg, iZ_lt, iZ_le, iZ_eq, iZ_div, iZ_of, ix_Z, gZ_map, gZ_mapI, gZ_map', le_0, le_s, sZ_map, sZ_len, bZ_0, bZ_inj, bZ_t, bZ_f, nr_i, nr_0, nr_1, nr_b, ft_i, ft_b, ft_0, ft_1, zl_0, zl_1, l0, l1, l2, h1, e24, mm1, mm2, MO, -List.filter_filter, -List.getElem?_map, -List.getD_eq_getElem?_getD]
  | false =>
    rw [bZ_f] at mm2 ⊢
    simp (disch := first | (refine c1_id ?_; assumption) | (refine c1_st rfl ?_; repeat (first | assumption | refine c1_st rfl ?_)) | omega) [nx_l, nx_r, nx_n, x_st, x_push, x_bin, x_div, x_un, x_dup, x_pop, x_dup2, x_goto, x_ifeq, x_ifne, x_iflt, x_ifge, x_ifgt, x_ifle, x_iceq, x_icne, x_iclt, x_icge, x_icgt, x_icle, x_ifnull, x_ifnonnull, x_ldi, x_lda, x_sti, x_sta, x_iinc, x_gf, x_pf, x_ald, x_ast, x_aln, x_len, x_cl_, x_cv, x_cs, x_rc, x_r0, x_isT, x_oi, x_rv, x_ri, x_ra, Value.category, t53_0, t53_1, t53_4, t53_5, t53_8, t53_9, t53_10, t53_13, t53_14, t53_15, t53_16, t53_17, t53_20, lk_s, hp_get, hp_set, uH_at, uH_ne, uH_upd, uH_swap, iZ_add, iZ_sub, iZ_mul, iZ_neg, iZ_lt, iZ_le, iZ_eq, iZ_div, iZ_of, ix_Z, gZ_map, gZ_mapI, gZ_map', le_0, le_s, sZ_map, sZ_len, bZ_0, bZ_inj, bZ_t, bZ_f, nr_i, nr_0, nr_1, nr_b, ft_i, ft_b, ft_0, ft_1, zl_0, zl_1, l0, l1, l2, h1, e24, mm1, mm2, MO, -List.filter_filter, -List.getElem?_map, -List.getD_eq_getElem?_getD]
end MC
