/-! the class: what a rule chooses -/
theorem f40_0 : x_fetch q_k40 0 = x_lda 1 0 := rfl
theorem t40_0 (C : xF) (s n : Nat) (z : xS) : x_to q_k40 C s (n + 1) 0 z = x_nx q_k40 C s n ((x_lda 1 0) C z) := x_to_at f40_0 C s n z
theorem f40_1 : x_fetch q_k40 1 = x_st (x_push 2 (.int (0))) := rfl
theorem t40_1 (C : xF) (s n : Nat) (z : xS) : x_to q_k40 C s (n + 1) 1 z = x_nx q_k40 C s n ((x_st (x_push 2 (.int (0)))) C z) := x_to_at f40_1 C s n z
theorem f40_2 : x_fetch q_k40 2 = x_pf 5 5 7 (.int) := rfl
theorem t40_2 (C : xF) (s n : Nat) (z : xS) : x_to q_k40 C s (n + 1) 2 z = x_nx q_k40 C s n ((x_pf 5 5 7 (.int)) C z) := x_to_at f40_2 C s n z
theorem f40_5 : x_fetch q_k40 5 = x_lda 6 0 := rfl
theorem t40_5 (C : xF) (s n : Nat) (z : xS) : x_to q_k40 C s (n + 1) 5 z = x_nx q_k40 C s n ((x_lda 6 0) C z) := x_to_at f40_5 C s n z
theorem f40_6 : x_fetch q_k40 6 = x_gf 9 5 3 := rfl
theorem t40_6 (C : xF) (s n : Nat) (z : xS) : x_to q_k40 C s (n + 1) 6 z = x_nx q_k40 C s n ((x_gf 9 5 3) C z) := x_to_at f40_6 C s n z
theorem f40_9 : x_fetch q_k40 9 = x_st (x_push 10 (.int (-1))) := rfl
theorem t40_9 (C : xF) (s n : Nat) (z : xS) : x_to q_k40 C s (n + 1) 9 z = x_nx q_k40 C s n ((x_st (x_push 10 (.int (-1)))) C z) := x_to_at f40_9 C s n z
theorem f40_10 : x_fetch q_k40 10 = x_cl_ 13 148 2 := rfl
theorem t40_10 (C : xF) (s n : Nat) (z : xS) : x_to q_k40 C s (n + 1) 10 z = x_nx q_k40 C s n ((x_cl_ 13 148 2) C z) := x_to_at f40_10 C s n z
theorem f40_13 : x_fetch q_k40 13 = x_lda 14 0 := rfl
theorem t40_13 (C : xF) (s n : Nat) (z : xS) : x_to q_k40 C s (n + 1) 13 z = x_nx q_k40 C s n ((x_lda 14 0) C z) := x_to_at f40_13 C s n z
theorem f40_14 : x_fetch q_k40 14 = x_lda 15 1 := rfl
theorem t40_14 (C : xF) (s n : Nat) (z : xS) : x_to q_k40 C s (n + 1) 14 z = x_nx q_k40 C s n ((x_lda 15 1) C z) := x_to_at f40_14 C s n z
theorem f40_15 : x_fetch q_k40 15 = x_st (x_push 16 (.int (0))) := rfl
theorem t40_15 (C : xF) (s n : Nat) (z : xS) : x_to q_k40 C s (n + 1) 15 z = x_nx q_k40 C s n ((x_st (x_push 16 (.int (0)))) C z) := x_to_at f40_15 C s n z
theorem f40_16 : x_fetch q_k40 16 = x_cv 19 41 3 5 := rfl
theorem t40_16 (C : xF) (s n : Nat) (z : xS) : x_to q_k40 C s (n + 1) 16 z = x_nx q_k40 C s n ((x_cv 19 41 3 5) C z) := x_to_at f40_16 C s n z
theorem f40_19 : x_fetch q_k40 19 = x_rv := rfl
theorem t40_19 (C : xF) (s n : Nat) (z : xS) : x_to q_k40 C s (n + 1) 19 z = x_nx q_k40 C s n ((x_rv) C z) := x_to_at f40_19 C s n z
theorem f61_0 : x_fetch q_k61 0 = x_lda 1 0 := rfl
theorem t61_0 (C : xF) (s n : Nat) (z : xS) : x_to q_k61 C s (n + 1) 0 z = x_nx q_k61 C s n ((x_lda 1 0) C z) := x_to_at f61_0 C s n z
theorem f61_1 : x_fetch q_k61 1 = x_lda 2 1 := rfl
theorem t61_1 (C : xF) (s n : Nat) (z : xS) : x_to q_k61 C s (n + 1) 1 z = x_nx q_k61 C s n ((x_lda 2 1) C z) := x_to_at f61_1 C s n z
theorem f61_2 : x_fetch q_k61 2 = x_ldi 3 2 := rfl
theorem t61_2 (C : xF) (s n : Nat) (z : xS) : x_to q_k61 C s (n + 1) 2 z = x_nx q_k61 C s n ((x_ldi 3 2) C z) := x_to_at f61_2 C s n z
theorem f61_3 : x_fetch q_k61 3 = x_cv 6 11 2 4 := rfl
theorem t61_3 (C : xF) (s n : Nat) (z : xS) : x_to q_k61 C s (n + 1) 3 z = x_nx q_k61 C s n ((x_cv 6 11 2 4) C z) := x_to_at f61_3 C s n z
theorem f61_6 : x_fetch q_k61 6 = x_pf 9 2 2 (.int) := rfl
theorem t61_6 (C : xF) (s n : Nat) (z : xS) : x_to q_k61 C s (n + 1) 6 z = x_nx q_k61 C s n ((x_pf 9 2 2 (.int)) C z) := x_to_at f61_6 C s n z
theorem f61_9 : x_fetch q_k61 9 = x_lda 10 0 := rfl
theorem t61_9 (C : xF) (s n : Nat) (z : xS) : x_to q_k61 C s (n + 1) 9 z = x_nx q_k61 C s n ((x_lda 10 0) C z) := x_to_at f61_9 C s n z
theorem f61_10 : x_fetch q_k61 10 = x_lda 11 1 := rfl
theorem t61_10 (C : xF) (s n : Nat) (z : xS) : x_to q_k61 C s (n + 1) 10 z = x_nx q_k61 C s n ((x_lda 11 1) C z) := x_to_at f61_10 C s n z
theorem f61_11 : x_fetch q_k61 11 = x_gf 14 4 4 := rfl
theorem t61_11 (C : xF) (s n : Nat) (z : xS) : x_to q_k61 C s (n + 1) 11 z = x_nx q_k61 C s n ((x_gf 14 4 4) C z) := x_to_at f61_11 C s n z
theorem f61_14 : x_fetch q_k61 14 = x_lda 15 3 := rfl
theorem t61_14 (C : xF) (s n : Nat) (z : xS) : x_to q_k61 C s (n + 1) 14 z = x_nx q_k61 C s n ((x_lda 15 3) C z) := x_to_at f61_14 C s n z
theorem f61_15 : x_fetch q_k61 15 = x_ldi 17 4 := rfl
theorem t61_15 (C : xF) (s n : Nat) (z : xS) : x_to q_k61 C s (n + 1) 15 z = x_nx q_k61 C s n ((x_ldi 17 4) C z) := x_to_at f61_15 C s n z
theorem f61_17 : x_fetch q_k61 17 = x_cv 20 11 2 4 := rfl
theorem t61_17 (C : xF) (s n : Nat) (z : xS) : x_to q_k61 C s (n + 1) 17 z = x_nx q_k61 C s n ((x_cv 20 11 2 4) C z) := x_to_at f61_17 C s n z
theorem f61_20 : x_fetch q_k61 20 = x_st (x_bin 21 (fun a b => a + b)) := rfl
theorem t61_20 (C : xF) (s n : Nat) (z : xS) : x_to q_k61 C s (n + 1) 20 z = x_nx q_k61 C s n ((x_st (x_bin 21 (fun a b => a + b))) C z) := x_to_at f61_20 C s n z
theorem f61_21 : x_fetch q_k61 21 = x_pf 24 2 3 (.int) := rfl
theorem t61_21 (C : xF) (s n : Nat) (z : xS) : x_to q_k61 C s (n + 1) 21 z = x_nx q_k61 C s n ((x_pf 24 2 3 (.int)) C z) := x_to_at f61_21 C s n z
theorem f61_24 : x_fetch q_k61 24 = x_lda 25 0 := rfl
theorem t61_24 (C : xF) (s n : Nat) (z : xS) : x_to q_k61 C s (n + 1) 24 z = x_nx q_k61 C s n ((x_lda 25 0) C z) := x_to_at f61_24 C s n z
theorem f61_25 : x_fetch q_k61 25 = x_lda 26 0 := rfl
theorem t61_25 (C : xF) (s n : Nat) (z : xS) : x_to q_k61 C s (n + 1) 25 z = x_nx q_k61 C s n ((x_lda 26 0) C z) := x_to_at f61_25 C s n z
theorem f61_26 : x_fetch q_k61 26 = x_gf 29 2 3 := rfl
theorem t61_26 (C : xF) (s n : Nat) (z : xS) : x_to q_k61 C s (n + 1) 26 z = x_nx q_k61 C s n ((x_gf 29 2 3) C z) := x_to_at f61_26 C s n z
theorem f61_29 : x_fetch q_k61 29 = x_pf 32 2 5 (.int) := rfl
theorem t61_29 (C : xF) (s n : Nat) (z : xS) : x_to q_k61 C s (n + 1) 29 z = x_nx q_k61 C s n ((x_pf 32 2 5 (.int)) C z) := x_to_at f61_29 C s n z
theorem f61_32 : x_fetch q_k61 32 = x_lda 33 1 := rfl
theorem t61_32 (C : xF) (s n : Nat) (z : xS) : x_to q_k61 C s (n + 1) 32 z = x_nx q_k61 C s n ((x_lda 33 1) C z) := x_to_at f61_32 C s n z
theorem f61_33 : x_fetch q_k61 33 = x_gf 36 4 2 := rfl
theorem t61_33 (C : xF) (s n : Nat) (z : xS) : x_to q_k61 C s (n + 1) 33 z = x_nx q_k61 C s n ((x_gf 36 4 2) C z) := x_to_at f61_33 C s n z
theorem f61_36 : x_fetch q_k61 36 = x_ldi 37 2 := rfl
theorem t61_36 (C : xF) (s n : Nat) (z : xS) : x_to q_k61 C s (n + 1) 36 z = x_nx q_k61 C s n ((x_ldi 37 2) C z) := x_to_at f61_36 C s n z
theorem f61_37 : x_fetch q_k61 37 = x_ald 38 1 := rfl
theorem t61_37 (C : xF) (s n : Nat) (z : xS) : x_to q_k61 C s (n + 1) 37 z = x_nx q_k61 C s n ((x_ald 38 1) C z) := x_to_at f61_37 C s n z
theorem f61_38 : x_fetch q_k61 38 = x_lda 39 3 := rfl
theorem t61_38 (C : xF) (s n : Nat) (z : xS) : x_to q_k61 C s (n + 1) 38 z = x_nx q_k61 C s n ((x_lda 39 3) C z) := x_to_at f61_38 C s n z
theorem f61_39 : x_fetch q_k61 39 = x_gf 42 4 2 := rfl
theorem t61_39 (C : xF) (s n : Nat) (z : xS) : x_to q_k61 C s (n + 1) 39 z = x_nx q_k61 C s n ((x_gf 42 4 2) C z) := x_to_at f61_39 C s n z
theorem f61_42 : x_fetch q_k61 42 = x_ldi 44 4 := rfl
theorem t61_42 (C : xF) (s n : Nat) (z : xS) : x_to q_k61 C s (n + 1) 42 z = x_nx q_k61 C s n ((x_ldi 44 4) C z) := x_to_at f61_42 C s n z
theorem f61_44 : x_fetch q_k61 44 = x_ald 45 1 := rfl
theorem t61_44 (C : xF) (s n : Nat) (z : xS) : x_to q_k61 C s (n + 1) 44 z = x_nx q_k61 C s n ((x_ald 45 1) C z) := x_to_at f61_44 C s n z
theorem f61_45 : x_fetch q_k61 45 = x_st (x_iceq 52 48) := rfl
theorem t61_45 (C : xF) (s n : Nat) (z : xS) : x_to q_k61 C s (n + 1) 45 z = x_nx q_k61 C s n ((x_st (x_iceq 52 48)) C z) := x_to_at f61_45 C s n z
theorem f61_48 : x_fetch q_k61 48 = x_st (x_push 49 (.int (1))) := rfl
theorem t61_48 (C : xF) (s n : Nat) (z : xS) : x_to q_k61 C s (n + 1) 48 z = x_nx q_k61 C s n ((x_st (x_push 49 (.int (1)))) C z) := x_to_at f61_48 C s n z
theorem f61_49 : x_fetch q_k61 49 = x_st (x_goto 53) := rfl
theorem t61_49 (C : xF) (s n : Nat) (z : xS) : x_to q_k61 C s (n + 1) 49 z = x_nx q_k61 C s n ((x_st (x_goto 53)) C z) := x_to_at f61_49 C s n z
theorem f61_52 : x_fetch q_k61 52 = x_st (x_push 53 (.int (0))) := rfl
theorem t61_52 (C : xF) (s n : Nat) (z : xS) : x_to q_k61 C s (n + 1) 52 z = x_nx q_k61 C s n ((x_st (x_push 53 (.int (0)))) C z) := x_to_at f61_52 C s n z
theorem f61_53 : x_fetch q_k61 53 = x_ri (.boolean) := rfl
theorem t61_53 (C : xF) (s n : Nat) (z : xS) : x_to q_k61 C s (n + 1) 53 z = x_nx q_k61 C s n ((x_ri (.boolean)) C z) := x_to_at f61_53 C s n z
theorem f85_0 : x_fetch q_k85 0 = x_ldi 1 0 := rfl
theorem t85_0 (C : xF) (s n : Nat) (z : xS) : x_to q_k85 C s (n + 1) 0 z = x_nx q_k85 C s n ((x_ldi 1 0) C z) := x_to_at f85_0 C s n z
theorem f85_1 : x_fetch q_k85 1 = x_st (x_ifeq 9 4) := rfl
theorem t85_1 (C : xF) (s n : Nat) (z : xS) : x_to q_k85 C s (n + 1) 1 z = x_nx q_k85 C s n ((x_st (x_ifeq 9 4)) C z) := x_to_at f85_1 C s n z
theorem f85_4 : x_fetch q_k85 4 = x_ldi 5 0 := rfl
theorem t85_4 (C : xF) (s n : Nat) (z : xS) : x_to q_k85 C s (n + 1) 4 z = x_nx q_k85 C s n ((x_ldi 5 0) C z) := x_to_at f85_4 C s n z
theorem f85_5 : x_fetch q_k85 5 = x_st (x_push 6 (.int (3))) := rfl
theorem t85_5 (C : xF) (s n : Nat) (z : xS) : x_to q_k85 C s (n + 1) 5 z = x_nx q_k85 C s n ((x_st (x_push 6 (.int (3)))) C z) := x_to_at f85_5 C s n z
theorem f85_6 : x_fetch q_k85 6 = x_st (x_icne 13 9) := rfl
theorem t85_6 (C : xF) (s n : Nat) (z : xS) : x_to q_k85 C s (n + 1) 6 z = x_nx q_k85 C s n ((x_st (x_icne 13 9)) C z) := x_to_at f85_6 C s n z
theorem f85_9 : x_fetch q_k85 9 = x_st (x_push 10 (.int (1))) := rfl
theorem t85_9 (C : xF) (s n : Nat) (z : xS) : x_to q_k85 C s (n + 1) 9 z = x_nx q_k85 C s n ((x_st (x_push 10 (.int (1)))) C z) := x_to_at f85_9 C s n z
theorem f85_10 : x_fetch q_k85 10 = x_st (x_goto 14) := rfl
theorem t85_10 (C : xF) (s n : Nat) (z : xS) : x_to q_k85 C s (n + 1) 10 z = x_nx q_k85 C s n ((x_st (x_goto 14)) C z) := x_to_at f85_10 C s n z
theorem f85_13 : x_fetch q_k85 13 = x_st (x_push 14 (.int (0))) := rfl
theorem t85_13 (C : xF) (s n : Nat) (z : xS) : x_to q_k85 C s (n + 1) 13 z = x_nx q_k85 C s n ((x_st (x_push 14 (.int (0)))) C z) := x_to_at f85_13 C s n z
theorem f85_14 : x_fetch q_k85 14 = x_ri (.boolean) := rfl
theorem t85_14 (C : xF) (s n : Nat) (z : xS) : x_to q_k85 C s (n + 1) 14 z = x_nx q_k85 C s n ((x_ri (.boolean)) C z) := x_to_at f85_14 C s n z
theorem f87_0 : x_fetch q_k87 0 = x_ldi 1 0 := rfl
theorem t87_0 (C : xF) (s n : Nat) (z : xS) : x_to q_k87 C s (n + 1) 0 z = x_nx q_k87 C s n ((x_ldi 1 0) C z) := x_to_at f87_0 C s n z
theorem f87_1 : x_fetch q_k87 1 = x_st (x_push 3 (.int (100))) := rfl
theorem t87_1 (C : xF) (s n : Nat) (z : xS) : x_to q_k87 C s (n + 1) 1 z = x_nx q_k87 C s n ((x_st (x_push 3 (.int (100)))) C z) := x_to_at f87_1 C s n z
theorem f87_3 : x_fetch q_k87 3 = x_st (x_iclt 13 6) := rfl
theorem t87_3 (C : xF) (s n : Nat) (z : xS) : x_to q_k87 C s (n + 1) 3 z = x_nx q_k87 C s n ((x_st (x_iclt 13 6)) C z) := x_to_at f87_3 C s n z
theorem f87_6 : x_fetch q_k87 6 = x_ldi 7 0 := rfl
theorem t87_6 (C : xF) (s n : Nat) (z : xS) : x_to q_k87 C s (n + 1) 6 z = x_nx q_k87 C s n ((x_ldi 7 0) C z) := x_to_at f87_6 C s n z
theorem f87_7 : x_fetch q_k87 7 = x_st (x_push 9 (.int (100))) := rfl
theorem t87_7 (C : xF) (s n : Nat) (z : xS) : x_to q_k87 C s (n + 1) 7 z = x_nx q_k87 C s n ((x_st (x_push 9 (.int (100)))) C z) := x_to_at f87_7 C s n z
theorem f87_9 : x_fetch q_k87 9 = x_st (x_bin 10 (fun a b => a - b)) := rfl
theorem t87_9 (C : xF) (s n : Nat) (z : xS) : x_to q_k87 C s (n + 1) 9 z = x_nx q_k87 C s n ((x_st (x_bin 10 (fun a b => a - b))) C z) := x_to_at f87_9 C s n z
theorem f87_10 : x_fetch q_k87 10 = x_st (x_goto 14) := rfl
theorem t87_10 (C : xF) (s n : Nat) (z : xS) : x_to q_k87 C s (n + 1) 10 z = x_nx q_k87 C s n ((x_st (x_goto 14)) C z) := x_to_at f87_10 C s n z
theorem f87_13 : x_fetch q_k87 13 = x_ldi 14 0 := rfl
theorem t87_13 (C : xF) (s n : Nat) (z : xS) : x_to q_k87 C s (n + 1) 13 z = x_nx q_k87 C s n ((x_ldi 14 0) C z) := x_to_at f87_13 C s n z
theorem f87_14 : x_fetch q_k87 14 = x_ri (.int) := rfl
theorem t87_14 (C : xF) (s n : Nat) (z : xS) : x_to q_k87 C s (n + 1) 14 z = x_nx q_k87 C s n ((x_ri (.int)) C z) := x_to_at f87_14 C s n z
def GIn (w : Nat → xC) : Prop := ∃ (l wt : Int) (Sy Ee Ro Fs Fi Os Ot : List Int), w 16 = gO l wt ∧ w 17 = cI 0 Sy ∧ Sy.length = 80 ∧ w 18 = cI 0 Ee ∧ Ee.length = 80 ∧ w 19 = cI 0 Ro ∧ Ro.length = 80 ∧ (∀ i, 0 ≤ i → i < 80 → 0 ≤ gZ Ro i ∧ gZ Ro i < 80) ∧ w 20 = cI 0 Fs ∧ Fs.length = 52 ∧ w 21 = cI 1 Fi ∧ Fi.length = 80 ∧ (∀ i, gZ Fi i = 0 ∨ gZ Fi i = 1) ∧ w 22 = cI 0 Os ∧ Os.length = 241 ∧ w 23 = cI 0 Ot ∧ Ot.length = 241
theorem gZ_rep {n : Nat} {v i : Int} (h0 : 0 ≤ i) (h1 : i < n) : gZ (List.replicate n v) i = v := by
  unfold gZ
  rw [List.getD_eq_getElem?_getD, List.getElem?_replicate, if_pos (by omega)]
  rfl
theorem ren_0 (t : List Int) : ren (fun v => v + 0) t = t := by
  unfold ren
  simp
def endZ (Ee : List Int) (l p : Int) : Int := if p < l then gZ Ee p else l
section DA
variable {N : Nat} {l wt : Int} {w : Nat → xC} {D D2 : List (Int × List Int)} {a b : Nat} {S E B S2 E2 B2 Ee : List Int} {c o c2 o2 : Int} {q1 q2 q3 q4 q5 q6 : Int}
theorem m43a (d : Nat) (hN : 53 ≤ N) (hg : w 16 = gO l wt) (l0_ : 0 ≤ l) (l1_ : l ≤ 80) (p : Int) (p0 : 0 ≤ p) (p1 : p < 10000) (b1 : l ≤ p) : Xc (d + 1) 43 [.ref 19, .int (iZ p)] (hp w N) (some (.int (iZ l)), hp w N) := by
  refine Xc.of rfl (by simp [lg_sl, Value.category]) ?_ (x_le.rf)
  have hc : c1 (lv_args 0 [.ref 19, .int (iZ p)]) := by simp [c1, lv_args, Value.category]
  have l0 : x_lk (lv_args 0 [.ref 19, .int (iZ p)]) 0 = some (.ref 19) := rfl
  have l1 : x_lk (lv_args 0 [.ref 19, .int (iZ p)]) 1 = some (.int (iZ p)) := rfl
  generalize lv_args 0 [.ref 19, .int (iZ p)] = lv at hc l0 l1
  have b0 : ¬ p < 0 := by omega
  have b2 : ¬ p < l := by omega
  refine Gx.fin 20 Cs.tt (fun X _ => ?_)
  simp (disch := first | (refine c1_id ?_; assumption) | (refine c1_st rfl ?_; repeat (first | assumption | refine c1_st rfl ?_)) | omega) [nx_l, nx_r, nx_n, x_st, x_push, x_bin, x_div, x_un, x_dup, x_pop, x_dup2, x_goto, x_ifeq, x_ifne, x_iflt, x_ifge, x_ifgt, x_ifle, x_iceq, x_icne, x_iclt, x_icge, x_icgt, x_icle, x_ifnull, x_ifnonnull, x_ldi, x_lda, x_sti, x_sta, x_iinc, x_gf, x_pf, x_ald, x_ast, x_aln, x_len, x_cl_, x_cv, x_cs, x_rc, x_r0, x_isT, x_oi, x_rv, x_ri, x_ra, Value.category, t43_0, t43_1, t43_4, t43_5, t43_6, t43_9, t43_12, t43_13, t43_16, t43_19, t43_20, t43_23, t43_24, t43_25, lk_s, hp_get, hp_set, uH_at, uH_ne, uH_upd, uH_swap, iZ_add, iZ_sub, iZ_mul, iZ_neg, iZ_lt, iZ_le, iZ_eq, iZ_div, iZ_of, ix_Z, gZ_map, gZ_mapI, gZ_map', le_0, le_s, sZ_map, sZ_len, bZ_0, bZ_inj, bZ_t, bZ_f, nr_i, nr_0, nr_1, nr_b, ft_i, ft_b, ft_0, ft_1, zl_0, zl_1, l0, l1, hg, b0, b2, gO, gF, -List.filter_filter, -List.getElem?_map, -List.getD_eq_getElem?_getD]
theorem m43b (d : Nat) (hN : 53 ≤ N) (hg : w 16 = gO l wt) (hE : w 18 = cI 0 Ee) (e1 : Ee.length = 80) (l0_ : 0 ≤ l) (l1_ : l ≤ 80) (p : Int) (p0 : 0 ≤ p) (p1 : p < 10000) : Xc (d + 1) 43 [.ref 19, .int (iZ p)] (hp w N) (some (.int (iZ (endZ Ee l p))), hp w N) := by
  unfold endZ
  by_cases h : p < l
  · rw [if_pos h]
    exact m43 d hN hg hE e1 l0_ l1_ p p0 h
  · rw [if_neg h]
    exact m43a d hN hg l0_ l1_ p p0 p1 (by omega)
theorem m85 (d : Nat) (w : Nat → xC) (N : Nat) (r : Int) (h1 : -2147483648 ≤ r) (h2 : r < 2147483648) : Xc (d + 1) 85 [.int (iZ r)] (hp w N) (some (.int (iZ (bZ (decide (r = 0 ∨ r = 3))))), hp w N) := by
  refine Xc.of rfl (by simp [lg_sl, Value.category]) ?_ (x_le.rf)
  have hc : c1 (lv_args 0 [.int (iZ r)]) := by simp [c1, lv_args, Value.category]
  have l0 : x_lk (lv_args 0 [.int (iZ r)]) 0 = some (.int (iZ r)) := rfl
  generalize lv_args 0 [.int (iZ r)] = lv at hc l0
  refine Gx.fin 20 Cs.tt (fun X _ => ?_)
  by_cases c0 : r = 0
  · rw [decide_eq_true (Or.inl c0), bZ_t]
    simp (disch := first | (refine c1_id ?_; assumption) | (refine c1_st rfl ?_; repeat (first | assumption | refine c1_st rfl ?_)) | omega) [nx_l, nx_r, nx_n, x_st, x_push, x_bin, x_div, x_un, x_dup, x_pop, x_dup2, x_goto, x_ifeq, x_ifne, x_iflt, x_ifge, x_ifgt, x_ifle, x_iceq, x_icne, x_iclt, x_icge, x_icgt, x_icle, x_ifnull, x_ifnonnull, x_ldi, x_lda, x_sti, x_sta, x_iinc, x_gf, x_pf, x_ald, x_ast, x_aln, x_len, x_cl_, x_cv, x_cs, x_rc, x_r0, x_isT, x_oi, x_rv, x_ri, x_ra, Value.category, t85_0, t85_1, t85_4, t85_5, t85_6, t85_9, t85_10, t85_13, t85_14, lk_s, hp_get, hp_set, uH_at, uH_ne, uH_upd, uH_swap, iZ_add, iZ_sub, iZ_mul, iZ_neg, iZ_lt, iZ_le, iZ_eq, iZ_div, iZ_of, ix_Z, gZ_map, gZ_mapI, gZ_map', le_0, le_s, sZ_map, sZ_len, bZ_0, bZ_inj, bZ_t, bZ_f, nr_i, nr_0, nr_1, nr_b, ft_i, ft_b, ft_0, ft_1, zl_0, zl_1, zl_3, l0, c0, -List.filter_filter, -List.getElem?_map, -List.getD_eq_getElem?_getD]
  · by_cases c3 : r = 3
    · rw [decide_eq_true (Or.inr c3), bZ_t]
      simp (disch := first | (refine c1_id ?_; assumption) | (refine c1_st rfl ?_; repeat (first | assumption | refine c1_st rfl ?_)) | omega) [nx_l, nx_r, nx_n, x_st, x_push, x_bin, x_div, x_un, x_dup, x_pop, x_dup2, x_goto, x_ifeq, x_ifne, x_iflt, x_ifge, x_ifgt, x_ifle, x_iceq, x_icne, x_iclt, x_icge, x_icgt, x_icle, x_ifnull, x_ifnonnull, x_ldi, x_lda, x_sti, x_sta, x_iinc, x_gf, x_pf, x_ald, x_ast, x_aln, x_len, x_cl_, x_cv, x_cs, x_rc, x_r0, x_isT, x_oi, x_rv, x_ri, x_ra, Value.category, t85_0, t85_1, t85_4, t85_5, t85_6, t85_9, t85_10, t85_13, t85_14, lk_s, hp_get, hp_set, uH_at, uH_ne, uH_upd, uH_swap, iZ_add, iZ_sub, iZ_mul, iZ_neg, iZ_lt, iZ_le, iZ_eq, iZ_div, iZ_of, ix_Z, gZ_map, gZ_mapI, gZ_map', le_0, le_s, sZ_map, sZ_len, bZ_0, bZ_inj, bZ_t, bZ_f, nr_i, nr_0, nr_1, nr_b, ft_i, ft_b, ft_0, ft_1, zl_0, zl_1, zl_3, l0, c0, c3, -List.filter_filter, -List.getElem?_map, -List.getD_eq_getElem?_getD]
    · rw [decide_eq_false (fun z => by omega), bZ_f]
      simp (disch := first | (refine c1_id ?_; assumption) | (refine c1_st rfl ?_; repeat (first | assumption | refine c1_st rfl ?_)) | omega) [nx_l, nx_r, nx_n, x_st, x_push, x_bin, x_div, x_un, x_dup, x_pop, x_dup2, x_goto, x_ifeq, x_ifne, x_iflt, x_ifge, x_ifgt, x_ifle, x_iceq, x_icne, x_iclt, x_icge, x_icgt, x_icle, x_ifnull, x_ifnonnull, x_ldi, x_lda, x_sti, x_sta, x_iinc, x_gf, x_pf, x_ald, x_ast, x_aln, x_len, x_cl_, x_cv, x_cs, x_rc, x_r0, x_isT, x_oi, x_rv, x_ri, x_ra, Value.category, t85_0, t85_1, t85_4, t85_5, t85_6, t85_9, t85_10, t85_13, t85_14, lk_s, hp_get, hp_set, uH_at, uH_ne, uH_upd, uH_swap, iZ_add, iZ_sub, iZ_mul, iZ_neg, iZ_lt, iZ_le, iZ_eq, iZ_div, iZ_of, ix_Z, gZ_map, gZ_mapI, gZ_map', le_0, le_s, sZ_map, sZ_len, bZ_0, bZ_inj, bZ_t, bZ_f, nr_i, nr_0, nr_1, nr_b, ft_i, ft_b, ft_0, ft_1, zl_0, zl_1, zl_3, l0, c0, c3, -List.filter_filter, -List.getElem?_map, -List.getD_eq_getElem?_getD]
theorem m87 (d : Nat) (w : Nat → xC) (N : Nat) (r : Int) (h1 : -2147483648 ≤ r) (h2 : r < 2147483648) : Xc (d + 1) 87 [.int (iZ r)] (hp w N) (some (.int (iZ (plQ r))), hp w N) := by
  refine Xc.of rfl (by simp [lg_sl, Value.category]) ?_ (x_le.rf)
  have hc : c1 (lv_args 0 [.int (iZ r)]) := by simp [c1, lv_args, Value.category]
  have l0 : x_lk (lv_args 0 [.int (iZ r)]) 0 = some (.int (iZ r)) := rfl
  generalize lv_args 0 [.int (iZ r)] = lv at hc l0
  refine Gx.fin 20 Cs.tt (fun X _ => ?_)
  unfold plQ
  by_cases c0 : 100 ≤ r
  · rw [if_pos c0]
    have c1_ : ¬ r < 100 := by omega
    simp (disch := first | (refine c1_id ?_; assumption) | (refine c1_st rfl ?_; repeat (first | assumption | refine c1_st rfl ?_)) | omega) [nx_l, nx_r, nx_n, x_st, x_push, x_bin, x_div, x_un, x_dup, x_pop, x_dup2, x_goto, x_ifeq, x_ifne, x_iflt, x_ifge, x_ifgt, x_ifle, x_iceq, x_icne, x_iclt, x_icge, x_icgt, x_icle, x_ifnull, x_ifnonnull, x_ldi, x_lda, x_sti, x_sta, x_iinc, x_gf, x_pf, x_ald, x_ast, x_aln, x_len, x_cl_, x_cv, x_cs, x_rc, x_r0, x_isT, x_oi, x_rv, x_ri, x_ra, Value.category, t87_0, t87_1, t87_3, t87_6, t87_7, t87_9, t87_10, t87_13, t87_14, lk_s, hp_get, hp_set, uH_at, uH_ne, uH_upd, uH_swap, iZ_add, iZ_sub, iZ_mul, iZ_neg, iZ_lt, iZ_le, iZ_eq, iZ_div, iZ_of, ix_Z, gZ_map, gZ_mapI, gZ_map', le_0, le_s, sZ_map, sZ_len, bZ_0, bZ_inj, bZ_t, bZ_f, nr_i, nr_0, nr_1, nr_b, ft_i, ft_b, ft_0, ft_1, zl_0, zl_1, zl_100, l0, c1_, -List.filter_filter, -List.getElem?_map, -List.getD_eq_getElem?_getD]
  · rw [if_neg c0]
    have c1_ : r < 100 := by omega
    simp (disch := first | (refine c1_id ?_; assumption) | (refine c1_st rfl ?_; repeat (first | assumption | refine c1_st rfl ?_)) | omega) [nx_l, nx_r, nx_n, x_st, x_push, x_bin, x_div, x_un, x_dup, x_pop, x_dup2, x_goto, x_ifeq, x_ifne, x_iflt, x_ifge, x_ifgt, x_ifle, x_iceq, x_icne, x_iclt, x_icge, x_icgt, x_icle, x_ifnull, x_ifnonnull, x_ldi, x_lda, x_sti, x_sta, x_iinc, x_gf, x_pf, x_ald, x_ast, x_aln, x_len, x_cl_, x_cv, x_cs, x_rc, x_r0, x_isT, x_oi, x_rv, x_ri, x_ra, Value.category, t87_0, t87_1, t87_3, t87_6, t87_7, t87_9, t87_10, t87_13, t87_14, lk_s, hp_get, hp_set, uH_at, uH_ne, uH_upd, uH_swap, iZ_add, iZ_sub, iZ_mul, iZ_neg, iZ_lt, iZ_le, iZ_eq, iZ_div, iZ_of, ix_Z, gZ_map, gZ_mapI, gZ_map', le_0, le_s, sZ_map, sZ_len, bZ_0, bZ_inj, bZ_t, bZ_f, nr_i, nr_0, nr_1, nr_b, ft_i, ft_b, ft_0, ft_1, zl_0, zl_1, zl_100, l0, c1_, -List.filter_filter, -List.getElem?_map, -List.getD_eq_getElem?_getD]
theorem m40 (d : Nat) (hN : 53 ≤ N) (ha : ∀ j, a ≤ j → j ≤ a + 3 → ¬ j ∈ ksG) (hfN : fN N a S E B) (hW : FW D S E B) (lS : (flt D).length ≤ S.length) (hs : ∀ s ∈ flt D, 0 ≤ s ∧ s < 204 ∧ (s < 99 → s < 26)) (hq : (flt D).length ≤ 80) (hI : GIn w) (hf : fo w a S E B c (flt D).length o) :
    ∃ (w' : Nat → xC) (Sy' Ro' Fs' : List Int), Fr ksG w w' ∧ GL w' (flt D) Sy' Ro' Fs' ∧ Xc (d + 3) 40 [.ref 19, .ref (a + 3)] (hp w N) (none, hp w' N) := by
  obtain ⟨l, wt, Sy, Ee, Ro, Fs, Fi, Os, Ot, g1, g2, g3, g4, g5, g6, g7, g8, g9, g10, g11, g12, g13, g14, g15, g16, g17⟩ := hI
  obtain ⟨w1, hw1⟩ : ∃ w1, w1 = uH w 16 (gO 0 wt) := ⟨_, rfl⟩
  have X1 := m148 (w := w1) (N := N) (a := 20) (S := Fs) (d + 1) (by rw [hw1, uH_ne (by decide)]; exact g9) (by omega) (by omega) (-1)
  rw [g10] at X1
  obtain ⟨w2, hw2⟩ : ∃ w2, w2 = uH w1 20 (cI 0 (List.replicate 52 (-1))) := ⟨_, rfl⟩
  rw [← hw2] at X1
  have F2 : Fr ksG w w2 := by rw [hw2, hw1]; exact ((Fr.rf _ _).up (by decide)).up (by decide)
  have G2 : GL w2 [] Sy Ro (List.replicate 52 (-1)) := by
    refine ⟨⟨wt, by rw [hw2, uH_ne (by decide), hw1, uH_at]; rfl⟩, by rw [hw2, uH_ne (by decide), hw1, uH_ne (by decide)]; exact g2, g3, by rw [hw2, uH_ne (by decide), hw1, uH_ne (by decide)]; exact g6, g7, g8, by rw [hw2, uH_at], by simp, fun i hi => absurd hi (Nat.not_lt_zero _), fun i hi => absurd hi (Nat.not_lt_zero _), fun v v0 v1 => ?_, by simp, fun s hs => by cases hs⟩
    rw [gZ_rep v0 (by omega), if_neg (by simp)]
  obtain ⟨w', Sy', Ro', Fs', i1, i2, i3⟩ := m41 (N := N) d hN 0 (by omega) (by omega) ha hfN hW lS hs (by simp; omega) G2 (⟨(F2 a (ha a (by omega) (by omega))).trans hf.1, (F2 (a + 1) (ha _ (by omega) (by omega))).trans hf.2.1, (F2 (a + 2) (ha _ (by omega) (by omega))).trans hf.2.2.1, (F2 (a + 3) (ha _ (by omega) (by omega))).trans hf.2.2.2⟩)
  rw [ren_0, List.nil_append] at i2
  refine ⟨w', Sy', Ro', Fs', F2.tr i1, i2, ?_⟩
  have hle : x_le (hp w N) (hp w' N) := by
    obtain ⟨⟨wt', b1⟩, b2, b3, b4, b5, _, b6, b7, _⟩ := i2
    refine hp_le (Nat.le_refl _) (fun j _ => ?_)
    by_cases hj : j ∈ ksG
    · unfold ksG at hj
      simp only [List.mem_cons, List.not_mem_nil, or_false] at hj
      rcases hj with rfl | rfl | rfl | rfl
      · rw [g1, b1]; simp [x_c1, gF]
      · rw [g2, b2]; simp [x_c1, g3, b3]
      · rw [g6, b4]; simp [x_c1, g7, b5]
      · rw [g9, b6]; simp [x_c1, g10, b7]
    · rw [(F2.tr i1) j hj]
      exact Nat.le_refl _
  refine Xc.of rfl (by simp [lg_sl, Value.category]) ?_ (hle)
  have hc : c1 (lv_args 0 [.ref 19, .ref (a + 3)]) := by simp [c1, lv_args, Value.category]
  have l0 : x_lk (lv_args 0 [.ref 19, .ref (a + 3)]) 0 = some (.ref 19) := rfl
  have l1 : x_lk (lv_args 0 [.ref 19, .ref (a + 3)]) 1 = some (.ref (a + 3)) := rfl
  generalize lv_args 0 [.ref 19, .ref (a + 3)] = lv at hc l0 l1
  refine Gx.fin 30 (X1.and i3) (fun X mm => ?_)
  obtain ⟨mm1, mm2⟩ := mm
  have hg2 : w2 16 = gO 0 wt := by rw [hw2, uH_ne (by decide), hw1, uH_at]
  have mm1 : X 148 [.ref 23, .int (iZ (-1))] (hp (uH w 16 (gO 0 wt)) N) = some (none, hp w2 N) := by rw [hw1] at mm1; exact mm1
  simp only [gO, gF] at mm1
  simp (disch := first | (refine c1_id ?_; assumption) | (refine c1_st rfl ?_; repeat (first | assumption | refine c1_st rfl ?_)) | omega) [nx_l, nx_r, nx_n, x_st, x_push, x_bin, x_div, x_un, x_dup, x_pop, x_dup2, x_goto, x_ifeq, x_ifne, x_iflt, x_ifge, x_ifgt, x_ifle, x_iceq, x_icne, x_iclt, x_icge, x_icgt, x_icle, x_ifnull, x_ifnonnull, x_ldi, x_lda, x_sti, x_sta, x_iinc, x_gf, x_pf, x_ald, x_ast, x_aln, x_len, x_cl_, x_cv, x_cs, x_rc, x_r0, x_isT, x_oi, x_rv, x_ri, x_ra, Value.category, t40_0, t40_1, t40_2, t40_5, t40_6, t40_9, t40_10, t40_13, t40_14, t40_15, t40_16, t40_19, lk_s, hp_get, hp_set, uH_at, uH_ne, uH_upd, uH_swap, iZ_add, iZ_sub, iZ_mul, iZ_neg, iZ_lt, iZ_le, iZ_eq, iZ_div, iZ_of, ix_Z, gZ_map, gZ_mapI, gZ_map', le_0, le_s, sZ_map, sZ_len, bZ_0, bZ_inj, bZ_t, bZ_f, nr_i, nr_0, nr_1, nr_b, ft_i, ft_b, ft_0, ft_1, zl_0, zl_1, l0, l1, g1, g9, hg2, mm1, mm2, gO, gF, -List.filter_filter, -List.getElem?_map, -List.getD_eq_getElem?_getD]
theorem m61 (d : Nat) (hd : w 11 = dO q1 q2 q3 q4 q5 q6) (h11 : 11 < N) (k k2 : Nat) (hk : k < D.length) (hk2 : k2 < D2.length) (ha : a ≠ 11) (hb : b ≠ 11) (h3a : ∀ j, a ≤ j → j ≤ a + 3 → j ≠ 11) (h3b : ∀ j, b ≤ j → j ≤ b + 3 → j ≠ 11) (hf : fo w a S E B c (flt D).length o) (hfN : fN N a S E B) (hW : FW D S E B) (hg : gV D) (lE : D.length ≤ E.length) (lB : D.length ≤ B.length) (f9 : (flt D).length ≤ 40) (hf2 : fo w b S2 E2 B2 c2 (flt D2).length o2) (hfN2 : fN N b S2 E2 B2) (hW2 : FW D2 S2 E2 B2) (hg2 : gV D2) (lE2 : D2.length ≤ E2.length) (lB2 : D2.length ≤ B2.length) :
    Xc (d + 2) 61 [.ref 14, .ref (a + 3), .int (iZ (k : Int)), .ref (b + 3), .int (iZ (k2 : Int))] (hp w N) (some (.int (iZ (bZ (decide ((lC D k).1 ≠ (lC D2 k2).1))))), hp (uH w 11 (dO (stC D k) ((flt D).length + stC D2 k2) q3 ((flt D).length + stC D2 k2) q5 q6)) N) := by
  have kE := hfN.2.2.1
  have kE2 := hfN2.2.2.1
  have kB := hfN.2.2.2
  have kB2 := hfN2.2.2.2
  have na := hfN.1
  have nb := hfN2.1
  obtain ⟨w1, hw1⟩ : ∃ w1, w1 = uH w 11 (dO (stC D k) q2 q3 q4 q5 q6) := ⟨_, rfl⟩
  have hf2' : fo w1 b S2 E2 B2 c2 (flt D2).length o2 := by
    obtain ⟨x1, x2, x3, x4⟩ := hf2
    rw [hw1]
    exact ⟨by rw [uH_ne (h3b b (by omega) (by omega))]; exact x1, by rw [uH_ne (h3b _ (by omega) (by omega))]; exact x2, by rw [uH_ne (h3b _ (by omega) (by omega))]; exact x3, by rw [uH_ne (h3b _ (by omega) (by omega))]; exact x4⟩
  have X1 := m11 d (k : Int) hf hfN (by omega) (by omega)
  rw [hW.st (by omega)] at X1
  have X2 := m11 d (k2 : Int) hf2' hfN2 (by omega) (by omega)
  rw [hW2.st (by omega)] at X2
  have hB := hW.2.2 k hk
  have hB2 := hW2.2.2 k2 hk2
  have s1 := (hg _ (lC_mem hk)).1
  have s2 := (hg2 _ (lC_mem hk2)).1
  obtain ⟨fa, fs, fe, fg⟩ := hf
  obtain ⟨fa2, fs2, fe2, fg2⟩ := hf2
  rw [hw1] at X2
  refine Xc.of rfl (by simp [lg_sl, Value.category]) ?_ (hp_up (by rw [hd]; simp [x_c1]))
  have hc : c1 (lv_args 0 [.ref 14, .ref (a + 3), .int (iZ (k : Int)), .ref (b + 3), .int (iZ (k2 : Int))]) := by simp [c1, lv_args, Value.category]
  have l0 : x_lk (lv_args 0 [.ref 14, .ref (a + 3), .int (iZ (k : Int)), .ref (b + 3), .int (iZ (k2 : Int))]) 0 = some (.ref 14) := rfl
  have l1 : x_lk (lv_args 0 [.ref 14, .ref (a + 3), .int (iZ (k : Int)), .ref (b + 3), .int (iZ (k2 : Int))]) 1 = some (.ref (a + 3)) := rfl
  have l2 : x_lk (lv_args 0 [.ref 14, .ref (a + 3), .int (iZ (k : Int)), .ref (b + 3), .int (iZ (k2 : Int))]) 2 = some (.int (iZ (k : Int))) := rfl
  have l3 : x_lk (lv_args 0 [.ref 14, .ref (a + 3), .int (iZ (k : Int)), .ref (b + 3), .int (iZ (k2 : Int))]) 3 = some (.ref (b + 3)) := rfl
  have l4 : x_lk (lv_args 0 [.ref 14, .ref (a + 3), .int (iZ (k : Int)), .ref (b + 3), .int (iZ (k2 : Int))]) 4 = some (.int (iZ (k2 : Int))) := rfl
  generalize lv_args 0 [.ref 14, .ref (a + 3), .int (iZ (k : Int)), .ref (b + 3), .int (iZ (k2 : Int))] = lv at hc l0 l1 l2 l3 l4
  refine Gx.fin 60 (X1.and X2) (fun X mm => ?_)
  obtain ⟨mm1, mm2⟩ := mm
  have ka : (k : Int) < B.length := by omega
  have kb : (k2 : Int) < B2.length := by omega
  obtain ⟨i, hi⟩ : ∃ i : Int, i = (k : Int) := ⟨_, rfl⟩
  obtain ⟨j, hj⟩ : ∃ j : Int, j = (k2 : Int) := ⟨_, rfl⟩
  rw [← hi] at mm1 hB ka l2
  rw [← hj] at mm2 hB2 kb l4
  have i0 : 0 ≤ i := by omega
  have j0 : 0 ≤ j := by omega
  generalize (lC D k).1 = u at *
  generalize (lC D2 k2).1 = v at *
  have a11 := h3a a (by omega) (by omega)
  have a11' := h3a (a + 3) (by omega) (by omega)
  have b11 := h3b b (by omega) (by omega)
  have b11' := h3b (b + 3) (by omega) (by omega)
  by_cases huv : u = v
  · rw [decide_eq_false (fun z => z huv), bZ_f]
    subst huv
    have u0 : 0 ≤ u := by omega
    have u1 : u ≤ 1 := by omega
    simp (disch := first | (refine c1_id ?_; assumption) | (refine c1_st rfl ?_; repeat (first | assumption | refine c1_st rfl ?_)) | omega) [nx_l, nx_r, nx_n, x_st, x_push, x_bin, x_div, x_un, x_dup, x_pop, x_dup2, x_goto, x_ifeq, x_ifne, x_iflt, x_ifge, x_ifgt, x_ifle, x_iceq, x_icne, x_iclt, x_icge, x_icgt, x_icle, x_ifnull, x_ifnonnull, x_ldi, x_lda, x_sti, x_sta, x_iinc, x_gf, x_pf, x_ald, x_ast, x_aln, x_len, x_cl_, x_cv, x_cs, x_rc, x_r0, x_isT, x_oi, x_rv, x_ri, x_ra, Value.category, t61_0, t61_1, t61_2, t61_3, t61_6, t61_9, t61_10, t61_11, t61_14, t61_15, t61_17, t61_20, t61_21, t61_24, t61_25, t61_26, t61_29, t61_32, t61_33, t61_36, t61_37, t61_38, t61_39, t61_42, t61_44, t61_45, t61_48, t61_49, t61_52, t61_53, lk_s, hp_get, hp_set, uH_at, uH_ne, uH_upd, uH_swap, iZ_add, iZ_sub, iZ_mul, iZ_neg, iZ_lt, iZ_le, iZ_eq, iZ_div, iZ_of, ix_Z, gZ_map, gZ_mapI, gZ_map', le_0, le_s, sZ_map, sZ_len, bZ_0, bZ_inj, bZ_t, bZ_f, nr_i, nr_0, nr_1, nr_b, ft_i, ft_b, ft_0, ft_1, zl_0, zl_1, l0, l1, l2, l3, l4, hd, fa, fa2, fg, fg2, hB, hB2, mm1, mm2, dO, -List.filter_filter, -List.getElem?_map, -List.getD_eq_getElem?_getD]
  · rw [decide_eq_true huv, bZ_t]
    have u0 : 0 ≤ u := by omega
    have u1 : u ≤ 1 := by omega
    have v0 : 0 ≤ v := by omega
    have v1 : v ≤ 1 := by omega
    simp (disch := first | (refine c1_id ?_; assumption) | (refine c1_st rfl ?_; repeat (first | assumption | refine c1_st rfl ?_)) | omega) [nx_l, nx_r, nx_n, x_st, x_push, x_bin, x_div, x_un, x_dup, x_pop, x_dup2, x_goto, x_ifeq, x_ifne, x_iflt, x_ifge, x_ifgt, x_ifle, x_iceq, x_icne, x_iclt, x_icge, x_icgt, x_icle, x_ifnull, x_ifnonnull, x_ldi, x_lda, x_sti, x_sta, x_iinc, x_gf, x_pf, x_ald, x_ast, x_aln, x_len, x_cl_, x_cv, x_cs, x_rc, x_r0, x_isT, x_oi, x_rv, x_ri, x_ra, Value.category, t61_0, t61_1, t61_2, t61_3, t61_6, t61_9, t61_10, t61_11, t61_14, t61_15, t61_17, t61_20, t61_21, t61_24, t61_25, t61_26, t61_29, t61_32, t61_33, t61_36, t61_37, t61_38, t61_39, t61_42, t61_44, t61_45, t61_48, t61_49, t61_52, t61_53, lk_s, hp_get, hp_set, uH_at, uH_ne, uH_upd, uH_swap, iZ_add, iZ_sub, iZ_mul, iZ_neg, iZ_lt, iZ_le, iZ_eq, iZ_div, iZ_of, ix_Z, gZ_map, gZ_mapI, gZ_map', le_0, le_s, sZ_map, sZ_len, bZ_0, bZ_inj, bZ_t, bZ_f, nr_i, nr_0, nr_1, nr_b, ft_i, ft_b, ft_0, ft_1, zl_0, zl_1, l0, l1, l2, l3, l4, hd, fa, fa2, fg, fg2, hB, hB2, huv, mm1, mm2, dO, -List.filter_filter, -List.getElem?_map, -List.getD_eq_getElem?_getD]
end DA
