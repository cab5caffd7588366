/-! the reference: reading letters, rows -/
theorem f95_0 : x_fetch q_k95 0 = x_lda 1 0 := rfl
theorem t95_0 (C : xF) (s n : Nat) (z : xS) : x_to q_k95 C s (n + 1) 0 z = x_nx q_k95 C s n ((x_lda 1 0) C z) := x_to_at f95_0 C s n z
theorem f95_1 : x_fetch q_k95 1 = x_gf 4 8 14 := rfl
theorem t95_1 (C : xF) (s n : Nat) (z : xS) : x_to q_k95 C s (n + 1) 1 z = x_nx q_k95 C s n ((x_gf 4 8 14) C z) := x_to_at f95_1 C s n z
theorem f95_4 : x_fetch q_k95 4 = x_lda 5 0 := rfl
theorem t95_4 (C : xF) (s n : Nat) (z : xS) : x_to q_k95 C s (n + 1) 4 z = x_nx q_k95 C s n ((x_lda 5 0) C z) := x_to_at f95_4 C s n z
theorem f95_5 : x_fetch q_k95 5 = x_gf 8 8 13 := rfl
theorem t95_5 (C : xF) (s n : Nat) (z : xS) : x_to q_k95 C s (n + 1) 5 z = x_nx q_k95 C s n ((x_gf 8 8 13) C z) := x_to_at f95_5 C s n z
theorem f95_8 : x_fetch q_k95 8 = x_st (x_icge 23 11) := rfl
theorem t95_8 (C : xF) (s n : Nat) (z : xS) : x_to q_k95 C s (n + 1) 8 z = x_nx q_k95 C s n ((x_st (x_icge 23 11)) C z) := x_to_at f95_8 C s n z
theorem f95_11 : x_fetch q_k95 11 = x_lda 12 0 := rfl
theorem t95_11 (C : xF) (s n : Nat) (z : xS) : x_to q_k95 C s (n + 1) 11 z = x_nx q_k95 C s n ((x_lda 12 0) C z) := x_to_at f95_11 C s n z
theorem f95_12 : x_fetch q_k95 12 = x_gf 15 8 12 := rfl
theorem t95_12 (C : xF) (s n : Nat) (z : xS) : x_to q_k95 C s (n + 1) 12 z = x_nx q_k95 C s n ((x_gf 15 8 12) C z) := x_to_at f95_12 C s n z
theorem f95_15 : x_fetch q_k95 15 = x_lda 16 0 := rfl
theorem t95_15 (C : xF) (s n : Nat) (z : xS) : x_to q_k95 C s (n + 1) 15 z = x_nx q_k95 C s n ((x_lda 16 0) C z) := x_to_at f95_15 C s n z
theorem f95_16 : x_fetch q_k95 16 = x_gf 19 8 14 := rfl
theorem t95_16 (C : xF) (s n : Nat) (z : xS) : x_to q_k95 C s (n + 1) 16 z = x_nx q_k95 C s n ((x_gf 19 8 14) C z) := x_to_at f95_16 C s n z
theorem f95_19 : x_fetch q_k95 19 = x_ald 20 2 := rfl
theorem t95_19 (C : xF) (s n : Nat) (z : xS) : x_to q_k95 C s (n + 1) 19 z = x_nx q_k95 C s n ((x_ald 20 2) C z) := x_to_at f95_19 C s n z
theorem f95_20 : x_fetch q_k95 20 = x_st (x_goto 24) := rfl
theorem t95_20 (C : xF) (s n : Nat) (z : xS) : x_to q_k95 C s (n + 1) 20 z = x_nx q_k95 C s n ((x_st (x_goto 24)) C z) := x_to_at f95_20 C s n z
theorem f95_23 : x_fetch q_k95 23 = x_st (x_push 24 (.int (0))) := rfl
theorem t95_23 (C : xF) (s n : Nat) (z : xS) : x_to q_k95 C s (n + 1) 23 z = x_nx q_k95 C s n ((x_st (x_push 24 (.int (0)))) C z) := x_to_at f95_23 C s n z
theorem f95_24 : x_fetch q_k95 24 = x_ri (.char) := rfl
theorem t95_24 (C : xF) (s n : Nat) (z : xS) : x_to q_k95 C s (n + 1) 24 z = x_nx q_k95 C s n ((x_ri (.char)) C z) := x_to_at f95_24 C s n z
theorem f96_0 : x_fetch q_k96 0 = x_lda 1 0 := rfl
theorem t96_0 (C : xF) (s n : Nat) (z : xS) : x_to q_k96 C s (n + 1) 0 z = x_nx q_k96 C s n ((x_lda 1 0) C z) := x_to_at f96_0 C s n z
theorem f96_1 : x_fetch q_k96 1 = x_cv 4 95 1 8 := rfl
theorem t96_1 (C : xF) (s n : Nat) (z : xS) : x_to q_k96 C s (n + 1) 1 z = x_nx q_k96 C s n ((x_cv 4 95 1 8) C z) := x_to_at f96_1 C s n z
theorem f96_4 : x_fetch q_k96 4 = x_ldi 5 1 := rfl
theorem t96_4 (C : xF) (s n : Nat) (z : xS) : x_to q_k96 C s (n + 1) 4 z = x_nx q_k96 C s n ((x_ldi 5 1) C z) := x_to_at f96_4 C s n z
theorem f96_5 : x_fetch q_k96 5 = x_st (x_icne 12 8) := rfl
theorem t96_5 (C : xF) (s n : Nat) (z : xS) : x_to q_k96 C s (n + 1) 5 z = x_nx q_k96 C s n ((x_st (x_icne 12 8)) C z) := x_to_at f96_5 C s n z
theorem f96_8 : x_fetch q_k96 8 = x_st (x_push 9 (.int (1))) := rfl
theorem t96_8 (C : xF) (s n : Nat) (z : xS) : x_to q_k96 C s (n + 1) 8 z = x_nx q_k96 C s n ((x_st (x_push 9 (.int (1)))) C z) := x_to_at f96_8 C s n z
theorem f96_9 : x_fetch q_k96 9 = x_st (x_goto 13) := rfl
theorem t96_9 (C : xF) (s n : Nat) (z : xS) : x_to q_k96 C s (n + 1) 9 z = x_nx q_k96 C s n ((x_st (x_goto 13)) C z) := x_to_at f96_9 C s n z
theorem f96_12 : x_fetch q_k96 12 = x_st (x_push 13 (.int (0))) := rfl
theorem t96_12 (C : xF) (s n : Nat) (z : xS) : x_to q_k96 C s (n + 1) 12 z = x_nx q_k96 C s n ((x_st (x_push 13 (.int (0)))) C z) := x_to_at f96_12 C s n z
theorem f96_13 : x_fetch q_k96 13 = x_sti 14 2 := rfl
theorem t96_13 (C : xF) (s n : Nat) (z : xS) : x_to q_k96 C s (n + 1) 13 z = x_nx q_k96 C s n ((x_sti 14 2) C z) := x_to_at f96_13 C s n z
theorem f96_14 : x_fetch q_k96 14 = x_lda 15 0 := rfl
theorem t96_14 (C : xF) (s n : Nat) (z : xS) : x_to q_k96 C s (n + 1) 14 z = x_nx q_k96 C s n ((x_lda 15 0) C z) := x_to_at f96_14 C s n z
theorem f96_15 : x_fetch q_k96 15 = x_ldi 16 2 := rfl
theorem t96_15 (C : xF) (s n : Nat) (z : xS) : x_to q_k96 C s (n + 1) 15 z = x_nx q_k96 C s n ((x_ldi 16 2) C z) := x_to_at f96_15 C s n z
theorem f96_16 : x_fetch q_k96 16 = x_st (x_ifeq 28 19) := rfl
theorem t96_16 (C : xF) (s n : Nat) (z : xS) : x_to q_k96 C s (n + 1) 16 z = x_nx q_k96 C s n ((x_st (x_ifeq 28 19)) C z) := x_to_at f96_16 C s n z
theorem f96_19 : x_fetch q_k96 19 = x_lda 20 0 := rfl
theorem t96_19 (C : xF) (s n : Nat) (z : xS) : x_to q_k96 C s (n + 1) 19 z = x_nx q_k96 C s n ((x_lda 20 0) C z) := x_to_at f96_19 C s n z
theorem f96_20 : x_fetch q_k96 20 = x_gf 23 8 14 := rfl
theorem t96_20 (C : xF) (s n : Nat) (z : xS) : x_to q_k96 C s (n + 1) 20 z = x_nx q_k96 C s n ((x_gf 23 8 14) C z) := x_to_at f96_20 C s n z
theorem f96_23 : x_fetch q_k96 23 = x_st (x_push 24 (.int (1))) := rfl
theorem t96_23 (C : xF) (s n : Nat) (z : xS) : x_to q_k96 C s (n + 1) 23 z = x_nx q_k96 C s n ((x_st (x_push 24 (.int (1)))) C z) := x_to_at f96_23 C s n z
theorem f96_24 : x_fetch q_k96 24 = x_st (x_bin 25 (fun a b => a + b)) := rfl
theorem t96_24 (C : xF) (s n : Nat) (z : xS) : x_to q_k96 C s (n + 1) 24 z = x_nx q_k96 C s n ((x_st (x_bin 25 (fun a b => a + b))) C z) := x_to_at f96_24 C s n z
theorem f96_25 : x_fetch q_k96 25 = x_st (x_goto 32) := rfl
theorem t96_25 (C : xF) (s n : Nat) (z : xS) : x_to q_k96 C s (n + 1) 25 z = x_nx q_k96 C s n ((x_st (x_goto 32)) C z) := x_to_at f96_25 C s n z
theorem f96_28 : x_fetch q_k96 28 = x_lda 29 0 := rfl
theorem t96_28 (C : xF) (s n : Nat) (z : xS) : x_to q_k96 C s (n + 1) 28 z = x_nx q_k96 C s n ((x_lda 29 0) C z) := x_to_at f96_28 C s n z
theorem f96_29 : x_fetch q_k96 29 = x_gf 32 8 14 := rfl
theorem t96_29 (C : xF) (s n : Nat) (z : xS) : x_to q_k96 C s (n + 1) 29 z = x_nx q_k96 C s n ((x_gf 32 8 14) C z) := x_to_at f96_29 C s n z
theorem f96_32 : x_fetch q_k96 32 = x_pf 35 8 14 (.int) := rfl
theorem t96_32 (C : xF) (s n : Nat) (z : xS) : x_to q_k96 C s (n + 1) 32 z = x_nx q_k96 C s n ((x_pf 35 8 14 (.int)) C z) := x_to_at f96_32 C s n z
theorem f96_35 : x_fetch q_k96 35 = x_ldi 36 2 := rfl
theorem t96_35 (C : xF) (s n : Nat) (z : xS) : x_to q_k96 C s (n + 1) 35 z = x_nx q_k96 C s n ((x_ldi 36 2) C z) := x_to_at f96_35 C s n z
theorem f96_36 : x_fetch q_k96 36 = x_ri (.boolean) := rfl
theorem t96_36 (C : xF) (s n : Nat) (z : xS) : x_to q_k96 C s (n + 1) 36 z = x_nx q_k96 C s n ((x_ri (.boolean)) C z) := x_to_at f96_36 C s n z
theorem f97_0 : x_fetch q_k97 0 = x_ldi 1 0 := rfl
theorem t97_0 (C : xF) (s n : Nat) (z : xS) : x_to q_k97 C s (n + 1) 0 z = x_nx q_k97 C s n ((x_ldi 1 0) C z) := x_to_at f97_0 C s n z
theorem f97_1 : x_fetch q_k97 1 = x_st (x_push 3 (.int (97))) := rfl
theorem t97_1 (C : xF) (s n : Nat) (z : xS) : x_to q_k97 C s (n + 1) 1 z = x_nx q_k97 C s n ((x_st (x_push 3 (.int (97)))) C z) := x_to_at f97_1 C s n z
theorem f97_3 : x_fetch q_k97 3 = x_st (x_iclt 16 6) := rfl
theorem t97_3 (C : xF) (s n : Nat) (z : xS) : x_to q_k97 C s (n + 1) 3 z = x_nx q_k97 C s n ((x_st (x_iclt 16 6)) C z) := x_to_at f97_3 C s n z
theorem f97_6 : x_fetch q_k97 6 = x_ldi 7 0 := rfl
theorem t97_6 (C : xF) (s n : Nat) (z : xS) : x_to q_k97 C s (n + 1) 6 z = x_nx q_k97 C s n ((x_ldi 7 0) C z) := x_to_at f97_6 C s n z
theorem f97_7 : x_fetch q_k97 7 = x_st (x_push 9 (.int (122))) := rfl
theorem t97_7 (C : xF) (s n : Nat) (z : xS) : x_to q_k97 C s (n + 1) 7 z = x_nx q_k97 C s n ((x_st (x_push 9 (.int (122)))) C z) := x_to_at f97_7 C s n z
theorem f97_9 : x_fetch q_k97 9 = x_st (x_icgt 16 12) := rfl
theorem t97_9 (C : xF) (s n : Nat) (z : xS) : x_to q_k97 C s (n + 1) 9 z = x_nx q_k97 C s n ((x_st (x_icgt 16 12)) C z) := x_to_at f97_9 C s n z
theorem f97_12 : x_fetch q_k97 12 = x_st (x_push 13 (.int (1))) := rfl
theorem t97_12 (C : xF) (s n : Nat) (z : xS) : x_to q_k97 C s (n + 1) 12 z = x_nx q_k97 C s n ((x_st (x_push 13 (.int (1)))) C z) := x_to_at f97_12 C s n z
theorem f97_13 : x_fetch q_k97 13 = x_st (x_goto 17) := rfl
theorem t97_13 (C : xF) (s n : Nat) (z : xS) : x_to q_k97 C s (n + 1) 13 z = x_nx q_k97 C s n ((x_st (x_goto 17)) C z) := x_to_at f97_13 C s n z
theorem f97_16 : x_fetch q_k97 16 = x_st (x_push 17 (.int (0))) := rfl
theorem t97_16 (C : xF) (s n : Nat) (z : xS) : x_to q_k97 C s (n + 1) 16 z = x_nx q_k97 C s n ((x_st (x_push 17 (.int (0)))) C z) := x_to_at f97_16 C s n z
theorem f97_17 : x_fetch q_k97 17 = x_ri (.boolean) := rfl
theorem t97_17 (C : xF) (s n : Nat) (z : xS) : x_to q_k97 C s (n + 1) 17 z = x_nx q_k97 C s n ((x_ri (.boolean)) C z) := x_to_at f97_17 C s n z
theorem f98_0 : x_fetch q_k98 0 = x_lda 1 0 := rfl
theorem t98_0 (C : xF) (s n : Nat) (z : xS) : x_to q_k98 C s (n + 1) 0 z = x_nx q_k98 C s n ((x_lda 1 0) C z) := x_to_at f98_0 C s n z
theorem f98_1 : x_fetch q_k98 1 = x_gf 4 8 17 := rfl
theorem t98_1 (C : xF) (s n : Nat) (z : xS) : x_to q_k98 C s (n + 1) 1 z = x_nx q_k98 C s n ((x_gf 4 8 17) C z) := x_to_at f98_1 C s n z
theorem f98_4 : x_fetch q_k98 4 = x_lda 5 0 := rfl
theorem t98_4 (C : xF) (s n : Nat) (z : xS) : x_to q_k98 C s (n + 1) 4 z = x_nx q_k98 C s n ((x_lda 5 0) C z) := x_to_at f98_4 C s n z
theorem f98_5 : x_fetch q_k98 5 = x_gf 8 8 21 := rfl
theorem t98_5 (C : xF) (s n : Nat) (z : xS) : x_to q_k98 C s (n + 1) 5 z = x_nx q_k98 C s n ((x_gf 8 8 21) C z) := x_to_at f98_5 C s n z
theorem f98_8 : x_fetch q_k98 8 = x_ldi 9 1 := rfl
theorem t98_8 (C : xF) (s n : Nat) (z : xS) : x_to q_k98 C s (n + 1) 8 z = x_nx q_k98 C s n ((x_ldi 9 1) C z) := x_to_at f98_8 C s n z
theorem f98_9 : x_fetch q_k98 9 = x_ast 10 0 (fun x => x) := rfl
theorem t98_9 (C : xF) (s n : Nat) (z : xS) : x_to q_k98 C s (n + 1) 9 z = x_nx q_k98 C s n ((x_ast 10 0 (fun x => x)) C z) := x_to_at f98_9 C s n z
theorem f98_10 : x_fetch q_k98 10 = x_lda 11 0 := rfl
theorem t98_10 (C : xF) (s n : Nat) (z : xS) : x_to q_k98 C s (n + 1) 10 z = x_nx q_k98 C s n ((x_lda 11 0) C z) := x_to_at f98_10 C s n z
theorem f98_11 : x_fetch q_k98 11 = x_st (x_dup 12) := rfl
theorem t98_11 (C : xF) (s n : Nat) (z : xS) : x_to q_k98 C s (n + 1) 11 z = x_nx q_k98 C s n ((x_st (x_dup 12)) C z) := x_to_at f98_11 C s n z
theorem f98_12 : x_fetch q_k98 12 = x_gf 15 8 21 := rfl
theorem t98_12 (C : xF) (s n : Nat) (z : xS) : x_to q_k98 C s (n + 1) 12 z = x_nx q_k98 C s n ((x_gf 15 8 21) C z) := x_to_at f98_12 C s n z
theorem f98_15 : x_fetch q_k98 15 = x_st (x_push 16 (.int (1))) := rfl
theorem t98_15 (C : xF) (s n : Nat) (z : xS) : x_to q_k98 C s (n + 1) 15 z = x_nx q_k98 C s n ((x_st (x_push 16 (.int (1)))) C z) := x_to_at f98_15 C s n z
theorem f98_16 : x_fetch q_k98 16 = x_st (x_bin 17 (fun a b => a + b)) := rfl
theorem t98_16 (C : xF) (s n : Nat) (z : xS) : x_to q_k98 C s (n + 1) 16 z = x_nx q_k98 C s n ((x_st (x_bin 17 (fun a b => a + b))) C z) := x_to_at f98_16 C s n z
theorem f98_17 : x_fetch q_k98 17 = x_pf 20 8 21 (.int) := rfl
theorem t98_17 (C : xF) (s n : Nat) (z : xS) : x_to q_k98 C s (n + 1) 17 z = x_nx q_k98 C s n ((x_pf 20 8 21 (.int)) C z) := x_to_at f98_17 C s n z
theorem f98_20 : x_fetch q_k98 20 = x_rv := rfl
theorem t98_20 (C : xF) (s n : Nat) (z : xS) : x_to q_k98 C s (n + 1) 20 z = x_nx q_k98 C s n ((x_rv) C z) := x_to_at f98_20 C s n z
theorem nr_c {c : Int} (h0 : 0 ≤ c) (h1 : c < 128) : narrow .char (.int (iZ c)) = .int (iZ c) := by
  have h : ∀ n : Fin 128, narrow .char (.int (iZ ((n : Nat) : Int))) = .int (iZ ((n : Nat) : Int)) := by decide
  have := h ⟨c.toNat, by omega⟩
  have e : ((c.toNat : Nat) : Int) = c := by omega
  rw [e] at this
  exact this
def mO (m : Nat → Int) : xC := .inr (8, mF m)
theorem mO_up {w : Nat → xC} {N : Nat} {m m' : Nat → Int} (h : w 27 = .inr (8, mF m)) : x_le (hp w N) (hp (uH w 27 (.inr (8, mF m'))) N) := hp_up (by rw [h]; exact Nat.le_refl _)
theorem cI_up {w : Nat → xC} {N a t : Nat} {S S' : List Int} (h : w a = cI t S) (e : S.length = S'.length) : x_le (hp w N) (hp (uH w a (cI t S')) N) := hp_up (by rw [h]; simp [x_c1, e])
/-- the letter at hand -/
def heZ (D : List Int) (p n : Int) : Int := if p < n then gZ D p else 0
section RD
variable {w : Nat → xC} {N : Nat} {m : Nat → Int} {D R : List Int}
theorem m95 (d : Nat) (hN : 53 ≤ N) (hm : w 27 = .inr (8, mF m)) (hD : w 37 = cI 2 D) (hl : D.length = 60) (h0 : 0 ≤ m 4) (h1 : m 4 ≤ m 3) (h2 : m 3 ≤ 60) (hr : ∀ i, 0 ≤ i → i < m 3 → 0 ≤ gZ D i ∧ gZ D i < 128) :
    Xc (d + 1) 95 [.ref 30] (hp w N) (some (.int (iZ (heZ D (m 4) (m 3)))), hp w N) := by
  refine Xc.of rfl (by simp [lg_sl, Value.category]) ?_ (x_le.rf)
  have hc : c1 (lv_args 0 [.ref 30]) := by simp [c1, lv_args, Value.category]
  have l0 : x_lk (lv_args 0 [.ref 30]) 0 = some (.ref 30) := rfl
  generalize lv_args 0 [.ref 30] = lv at hc l0
  refine Gx.fin 40 Cs.tt (fun C _ => ?_)
  by_cases h : m 3 ≤ m 4
  · have e : heZ D (m 4) (m 3) = 0 := if_neg (by omega)
    have z := nr_c (c := 0) (by omega) (by omega)
    simp (disch := first | (refine c1_id ?_; assumption) | (refine c1_st rfl ?_; first | assumption | (refine c1_st rfl ?_; first | assumption | (refine c1_st rfl ?_; first | assumption | (refine c1_st rfl ?_; assumption)))) | omega) [nx_l, nx_r, nx_n, x_st, x_push, x_bin, x_div, x_un, x_dup, x_pop, x_dup2, x_goto, x_ifeq, x_ifne, x_iflt, x_ifge, x_ifgt, x_ifle, x_iceq, x_icne, x_iclt, x_icge, x_icgt, x_icle, x_ifnull, x_ifnonnull, x_ldi, x_lda, x_sti, x_sta, x_iinc, x_gf, x_pf, x_ald, x_ast, x_aln, x_len, x_cl_, x_cv, x_cs, x_rc, x_r0, x_isT, x_oi, x_rv, x_ri, x_ra, Value.category, t95_0, t95_1, t95_4, t95_5, t95_8, t95_11, t95_12, t95_15, t95_16, t95_19, t95_20, t95_23, t95_24, lk_s, hp_get, hp_set, uH_at, uH_ne, uH_upd, uH_swap, iZ_add, iZ_sub, iZ_mul, iZ_neg, iZ_lt, iZ_le, iZ_eq, iZ_div, iZ_of, ix_Z, gZ_map, gZ_mapI, gZ_map', le_0, le_s, sZ_map, sZ_len, bZ_0, bZ_inj, bZ_t, bZ_f, nr_i, nr_0, nr_1, nr_b, ft_i, ft_b, ft_0, ft_1, zl_0, zl_1, mF_len, mg_0, mg_1, mg_2, mg_3, mg_4, mg_5, mg_6, mg_7, mg_8, mg_9, mg_10, mg_11, mg_12, mg_13, mg_14, mg_15, mg_16, mg_17, mg_18, mg_19, mg_20, mg_21, mg_22, mg_23, mg_24, mg_25, mg_26, mg_27, mg_28, mg_29, mg_30, mg_31, mg_32, mg_33, mg_34, mg_35, mg_36, mg_37, mg_38, ms_0, ms_1, ms_2, ms_13, ms_14, ms_15, ms_16, ms_21, ms_22, ms_23, ms_24, ms_28, ms_36, ms_37, ms_38, st_at, st_ne, st_st, st_swap, l0, hm, hD, h, e, z, -List.filter_filter, -List.getElem?_map, -List.getD_eq_getElem?_getD]
  · have e : heZ D (m 4) (m 3) = gZ D (m 4) := if_pos (by omega)
    have q := hr (m 4) h0 (by omega)
    have z := nr_c q.1 q.2
    simp (disch := first | (refine c1_id ?_; assumption) | (refine c1_st rfl ?_; first | assumption | (refine c1_st rfl ?_; first | assumption | (refine c1_st rfl ?_; first | assumption | (refine c1_st rfl ?_; assumption)))) | omega) [nx_l, nx_r, nx_n, x_st, x_push, x_bin, x_div, x_un, x_dup, x_pop, x_dup2, x_goto, x_ifeq, x_ifne, x_iflt, x_ifge, x_ifgt, x_ifle, x_iceq, x_icne, x_iclt, x_icge, x_icgt, x_icle, x_ifnull, x_ifnonnull, x_ldi, x_lda, x_sti, x_sta, x_iinc, x_gf, x_pf, x_ald, x_ast, x_aln, x_len, x_cl_, x_cv, x_cs, x_rc, x_r0, x_isT, x_oi, x_rv, x_ri, x_ra, Value.category, t95_0, t95_1, t95_4, t95_5, t95_8, t95_11, t95_12, t95_15, t95_16, t95_19, t95_20, t95_23, t95_24, lk_s, hp_get, hp_set, uH_at, uH_ne, uH_upd, uH_swap, iZ_add, iZ_sub, iZ_mul, iZ_neg, iZ_lt, iZ_le, iZ_eq, iZ_div, iZ_of, ix_Z, gZ_map, gZ_mapI, gZ_map', le_0, le_s, sZ_map, sZ_len, bZ_0, bZ_inj, bZ_t, bZ_f, nr_i, nr_0, nr_1, nr_b, ft_i, ft_b, ft_0, ft_1, zl_0, zl_1, mF_len, mg_0, mg_1, mg_2, mg_3, mg_4, mg_5, mg_6, mg_7, mg_8, mg_9, mg_10, mg_11, mg_12, mg_13, mg_14, mg_15, mg_16, mg_17, mg_18, mg_19, mg_20, mg_21, mg_22, mg_23, mg_24, mg_25, mg_26, mg_27, mg_28, mg_29, mg_30, mg_31, mg_32, mg_33, mg_34, mg_35, mg_36, mg_37, mg_38, ms_0, ms_1, ms_2, ms_13, ms_14, ms_15, ms_16, ms_21, ms_22, ms_23, ms_24, ms_28, ms_36, ms_37, ms_38, st_at, st_ne, st_st, st_swap, l0, hm, hD, h, e, z, -List.filter_filter, -List.getElem?_map, -List.getD_eq_getElem?_getD]
theorem heZ_r (h1 : m 4 ≤ m 3) (h0 : 0 ≤ m 4) (hr : ∀ i, 0 ≤ i → i < m 3 → 0 ≤ gZ D i ∧ gZ D i < 128) : 0 ≤ heZ D (m 4) (m 3) ∧ heZ D (m 4) (m 3) < 128 := by
  unfold heZ
  split
  · next h => exact hr _ h0 h
  · omega
theorem m96 (d : Nat) (hN : 53 ≤ N) (hm : w 27 = .inr (8, mF m)) (hD : w 37 = cI 2 D) (hl : D.length = 60) (h0 : 0 ≤ m 4) (h1 : m 4 ≤ m 3) (h2 : m 3 ≤ 60) (hr : ∀ i, 0 ≤ i → i < m 3 → 0 ≤ gZ D i ∧ gZ D i < 128) (c : Int) (c0 : 0 ≤ c) (c1_ : c < 128) :
    Xc (d + 2) 96 [.ref 30, .int (iZ c)] (hp w N) (some (.int (iZ (bZ (decide (heZ D (m 4) (m 3) = c))))), hp (uH w 27 (.inr (8, mF (st_ m 4 (m 4 + bZ (decide (heZ D (m 4) (m 3) = c))))))) N) := by
  refine Xc.of rfl (by simp [lg_sl, Value.category]) ?_ (hp_le (Nat.le_refl _) (fun j _ => by (simp only [uH]; repeat' split) <;> simp_all [x_c1, sZ_len, cpl_len, mF_len]))
  have hc : c1 (lv_args 0 [.ref 30, .int (iZ c)]) := by simp [c1, lv_args, Value.category]
  have l0 : x_lk (lv_args 0 [.ref 30, .int (iZ c)]) 0 = some (.ref 30) := rfl
  have l1 : x_lk (lv_args 0 [.ref 30, .int (iZ c)]) 1 = some (.int (iZ c)) := rfl
  generalize lv_args 0 [.ref 30, .int (iZ c)] = lv at hc l0 l1
  have q := heZ_r h1 h0 hr
  have mm := m95 d hN hm hD hl h0 h1 h2 hr
  refine Gx.fin 60 mm (fun C mm => ?_)
  by_cases h : heZ D (m 4) (m 3) = c
  · have e : decide (heZ D (m 4) (m 3) = c) = true := decide_eq_true h
    simp (disch := first | (refine c1_id ?_; assumption) | (refine c1_st rfl ?_; first | assumption | (refine c1_st rfl ?_; first | assumption | (refine c1_st rfl ?_; first | assumption | (refine c1_st rfl ?_; assumption)))) | omega) [nx_l, nx_r, nx_n, x_st, x_push, x_bin, x_div, x_un, x_dup, x_pop, x_dup2, x_goto, x_ifeq, x_ifne, x_iflt, x_ifge, x_ifgt, x_ifle, x_iceq, x_icne, x_iclt, x_icge, x_icgt, x_icle, x_ifnull, x_ifnonnull, x_ldi, x_lda, x_sti, x_sta, x_iinc, x_gf, x_pf, x_ald, x_ast, x_aln, x_len, x_cl_, x_cv, x_cs, x_rc, x_r0, x_isT, x_oi, x_rv, x_ri, x_ra, Value.category, t96_0, t96_1, t96_4, t96_5, t96_8, t96_9, t96_12, t96_13, t96_14, t96_15, t96_16, t96_19, t96_20, t96_23, t96_24, t96_25, t96_28, t96_29, t96_32, t96_35, t96_36, lk_s, hp_get, hp_set, uH_at, uH_ne, uH_upd, uH_swap, iZ_add, iZ_sub, iZ_mul, iZ_neg, iZ_lt, iZ_le, iZ_eq, iZ_div, iZ_of, ix_Z, gZ_map, gZ_mapI, gZ_map', le_0, le_s, sZ_map, sZ_len, bZ_0, bZ_inj, bZ_t, bZ_f, nr_i, nr_0, nr_1, nr_b, ft_i, ft_b, ft_0, ft_1, zl_0, zl_1, mF_len, mg_0, mg_1, mg_2, mg_3, mg_4, mg_5, mg_6, mg_7, mg_8, mg_9, mg_10, mg_11, mg_12, mg_13, mg_14, mg_15, mg_16, mg_17, mg_18, mg_19, mg_20, mg_21, mg_22, mg_23, mg_24, mg_25, mg_26, mg_27, mg_28, mg_29, mg_30, mg_31, mg_32, mg_33, mg_34, mg_35, mg_36, mg_37, mg_38, ms_0, ms_1, ms_2, ms_13, ms_14, ms_15, ms_16, ms_21, ms_22, ms_23, ms_24, ms_28, ms_36, ms_37, ms_38, st_at, st_ne, st_st, st_swap, l0, l1, hm, h, e, mm, -List.filter_filter, -List.getElem?_map, -List.getD_eq_getElem?_getD]
  · have e : decide (heZ D (m 4) (m 3) = c) = false := decide_eq_false h
    simp (disch := first | (refine c1_id ?_; assumption) | (refine c1_st rfl ?_; first | assumption | (refine c1_st rfl ?_; first | assumption | (refine c1_st rfl ?_; first | assumption | (refine c1_st rfl ?_; assumption)))) | omega) [nx_l, nx_r, nx_n, x_st, x_push, x_bin, x_div, x_un, x_dup, x_pop, x_dup2, x_goto, x_ifeq, x_ifne, x_iflt, x_ifge, x_ifgt, x_ifle, x_iceq, x_icne, x_iclt, x_icge, x_icgt, x_icle, x_ifnull, x_ifnonnull, x_ldi, x_lda, x_sti, x_sta, x_iinc, x_gf, x_pf, x_ald, x_ast, x_aln, x_len, x_cl_, x_cv, x_cs, x_rc, x_r0, x_isT, x_oi, x_rv, x_ri, x_ra, Value.category, t96_0, t96_1, t96_4, t96_5, t96_8, t96_9, t96_12, t96_13, t96_14, t96_15, t96_16, t96_19, t96_20, t96_23, t96_24, t96_25, t96_28, t96_29, t96_32, t96_35, t96_36, lk_s, hp_get, hp_set, uH_at, uH_ne, uH_upd, uH_swap, iZ_add, iZ_sub, iZ_mul, iZ_neg, iZ_lt, iZ_le, iZ_eq, iZ_div, iZ_of, ix_Z, gZ_map, gZ_mapI, gZ_map', le_0, le_s, sZ_map, sZ_len, bZ_0, bZ_inj, bZ_t, bZ_f, nr_i, nr_0, nr_1, nr_b, ft_i, ft_b, ft_0, ft_1, zl_0, zl_1, mF_len, mg_0, mg_1, mg_2, mg_3, mg_4, mg_5, mg_6, mg_7, mg_8, mg_9, mg_10, mg_11, mg_12, mg_13, mg_14, mg_15, mg_16, mg_17, mg_18, mg_19, mg_20, mg_21, mg_22, mg_23, mg_24, mg_25, mg_26, mg_27, mg_28, mg_29, mg_30, mg_31, mg_32, mg_33, mg_34, mg_35, mg_36, mg_37, mg_38, ms_0, ms_1, ms_2, ms_13, ms_14, ms_15, ms_16, ms_21, ms_22, ms_23, ms_24, ms_28, ms_36, ms_37, ms_38, st_at, st_ne, st_st, st_swap, l0, l1, hm, h, e, mm, -List.filter_filter, -List.getElem?_map, -List.getD_eq_getElem?_getD]
theorem m98 (d : Nat) (hN : 53 ≤ N) (hm : w 27 = .inr (8, mF m)) (hR : w 38 = cI 0 R) (hl : R.length = 600) (h0 : 0 ≤ m 7) (h1 : m 7 < 600) (v : Int) :
    Xc (d + 1) 98 [.ref 30, .int (iZ v)] (hp w N) (none, hp (uH (uH w 27 (.inr (8, mF (st_ m 7 (m 7 + 1))))) 38 (cI 0 (sZ R (m 7) v))) N) := by
  refine Xc.of rfl (by simp [lg_sl, Value.category]) ?_ (hp_le (Nat.le_refl _) (fun j _ => by (simp only [uH]; repeat' split) <;> simp_all [x_c1, sZ_len, cpl_len, mF_len]))
  have hc : c1 (lv_args 0 [.ref 30, .int (iZ v)]) := by simp [c1, lv_args, Value.category]
  have l0 : x_lk (lv_args 0 [.ref 30, .int (iZ v)]) 0 = some (.ref 30) := rfl
  have l1 : x_lk (lv_args 0 [.ref 30, .int (iZ v)]) 1 = some (.int (iZ v)) := rfl
  generalize lv_args 0 [.ref 30, .int (iZ v)] = lv at hc l0 l1
  refine Gx.fin 60 Cs.tt (fun C _ => ?_)
  simp (disch := first | (refine c1_id ?_; assumption) | (refine c1_st rfl ?_; first | assumption | (refine c1_st rfl ?_; first | assumption | (refine c1_st rfl ?_; first | assumption | (refine c1_st rfl ?_; assumption)))) | omega) [nx_l, nx_r, nx_n, x_st, x_push, x_bin, x_div, x_un, x_dup, x_pop, x_dup2, x_goto, x_ifeq, x_ifne, x_iflt, x_ifge, x_ifgt, x_ifle, x_iceq, x_icne, x_iclt, x_icge, x_icgt, x_icle, x_ifnull, x_ifnonnull, x_ldi, x_lda, x_sti, x_sta, x_iinc, x_gf, x_pf, x_ald, x_ast, x_aln, x_len, x_cl_, x_cv, x_cs, x_rc, x_r0, x_isT, x_oi, x_rv, x_ri, x_ra, Value.category, t98_0, t98_1, t98_4, t98_5, t98_8, t98_9, t98_10, t98_11, t98_12, t98_15, t98_16, t98_17, t98_20, lk_s, hp_get, hp_set, uH_at, uH_ne, uH_upd, uH_swap, iZ_add, iZ_sub, iZ_mul, iZ_neg, iZ_lt, iZ_le, iZ_eq, iZ_div, iZ_of, ix_Z, gZ_map, gZ_mapI, gZ_map', le_0, le_s, sZ_map, sZ_len, bZ_0, bZ_inj, bZ_t, bZ_f, nr_i, nr_0, nr_1, nr_b, ft_i, ft_b, ft_0, ft_1, zl_0, zl_1, mF_len, mg_0, mg_1, mg_2, mg_3, mg_4, mg_5, mg_6, mg_7, mg_8, mg_9, mg_10, mg_11, mg_12, mg_13, mg_14, mg_15, mg_16, mg_17, mg_18, mg_19, mg_20, mg_21, mg_22, mg_23, mg_24, mg_25, mg_26, mg_27, mg_28, mg_29, mg_30, mg_31, mg_32, mg_33, mg_34, mg_35, mg_36, mg_37, mg_38, ms_0, ms_1, ms_2, ms_13, ms_14, ms_15, ms_16, ms_21, ms_22, ms_23, ms_24, ms_28, ms_36, ms_37, ms_38, st_at, st_ne, st_st, st_swap, l0, l1, hm, hR, -List.filter_filter, -List.getElem?_map, -List.getD_eq_getElem?_getD]
theorem m97 (d : Nat) (w : Nat → xC) (N : Nat) (c : Int) (h0 : 0 ≤ c) (h1 : c < 128) : Xc (d + 1) 97 [.int (iZ c)] (hp w N) (some (.int (iZ (bZ (decide (97 ≤ c ∧ c ≤ 122))))), hp w N) := by
  refine Xc.of rfl (by simp [lg_sl, Value.category]) ?_ (x_le.rf)
  have hc : c1 (lv_args 0 [.int (iZ c)]) := by simp [c1, lv_args, Value.category]
  have l0 : x_lk (lv_args 0 [.int (iZ c)]) 0 = some (.int (iZ c)) := rfl
  generalize lv_args 0 [.int (iZ c)] = lv at hc l0
  refine Gx.fin 60 Cs.tt (fun C _ => ?_)
  by_cases h : c < 97
  · have e : decide (97 ≤ c ∧ c ≤ 122) = false := decide_eq_false (by omega)
    simp (disch := first | (refine c1_id ?_; assumption) | (refine c1_st rfl ?_; first | assumption | (refine c1_st rfl ?_; first | assumption | (refine c1_st rfl ?_; first | assumption | (refine c1_st rfl ?_; assumption)))) | omega) [nx_l, nx_r, nx_n, x_st, x_push, x_bin, x_div, x_un, x_dup, x_pop, x_dup2, x_goto, x_ifeq, x_ifne, x_iflt, x_ifge, x_ifgt, x_ifle, x_iceq, x_icne, x_iclt, x_icge, x_icgt, x_icle, x_ifnull, x_ifnonnull, x_ldi, x_lda, x_sti, x_sta, x_iinc, x_gf, x_pf, x_ald, x_ast, x_aln, x_len, x_cl_, x_cv, x_cs, x_rc, x_r0, x_isT, x_oi, x_rv, x_ri, x_ra, Value.category, t97_0, t97_1, t97_3, t97_6, t97_7, t97_9, t97_12, t97_13, t97_16, t97_17, lk_s, hp_get, hp_set, uH_at, uH_ne, uH_upd, uH_swap, iZ_add, iZ_sub, iZ_mul, iZ_neg, iZ_lt, iZ_le, iZ_eq, iZ_div, iZ_of, ix_Z, gZ_map, gZ_mapI, gZ_map', le_0, le_s, sZ_map, sZ_len, bZ_0, bZ_inj, bZ_t, bZ_f, nr_i, nr_0, nr_1, nr_b, ft_i, ft_b, ft_0, ft_1, zl_0, zl_1, zl_97, zl_122, l0, h, e, -List.filter_filter, -List.getElem?_map, -List.getD_eq_getElem?_getD]
  · by_cases h2 : 122 < c
    · have e : decide (97 ≤ c ∧ c ≤ 122) = false := decide_eq_false (by omega)
      simp (disch := first | (refine c1_id ?_; assumption) | (refine c1_st rfl ?_; first | assumption | (refine c1_st rfl ?_; first | assumption | (refine c1_st rfl ?_; first | assumption | (refine c1_st rfl ?_; assumption)))) | omega) [nx_l, nx_r, nx_n, x_st, x_push, x_bin, x_div, x_un, x_dup, x_pop, x_dup2, x_goto, x_ifeq, x_ifne, x_iflt, x_ifge, x_ifgt, x_ifle, x_iceq, x_icne, x_iclt, x_icge, x_icgt, x_icle, x_ifnull, x_ifnonnull, x_ldi, x_lda, x_sti, x_sta, x_iinc, x_gf, x_pf, x_ald, x_ast, x_aln, x_len, x_cl_, x_cv, x_cs, x_rc, x_r0, x_isT, x_oi, x_rv, x_ri, x_ra, Value.category, t97_0, t97_1, t97_3, t97_6, t97_7, t97_9, t97_12, t97_13, t97_16, t97_17, lk_s, hp_get, hp_set, uH_at, uH_ne, uH_upd, uH_swap, iZ_add, iZ_sub, iZ_mul, iZ_neg, iZ_lt, iZ_le, iZ_eq, iZ_div, iZ_of, ix_Z, gZ_map, gZ_mapI, gZ_map', le_0, le_s, sZ_map, sZ_len, bZ_0, bZ_inj, bZ_t, bZ_f, nr_i, nr_0, nr_1, nr_b, ft_i, ft_b, ft_0, ft_1, zl_0, zl_1, zl_97, zl_122, l0, h, h2, e, -List.filter_filter, -List.getElem?_map, -List.getD_eq_getElem?_getD]
    · have e : decide (97 ≤ c ∧ c ≤ 122) = true := decide_eq_true (by omega)
      simp (disch := first | (refine c1_id ?_; assumption) | (refine c1_st rfl ?_; first | assumption | (refine c1_st rfl ?_; first | assumption | (refine c1_st rfl ?_; first | assumption | (refine c1_st rfl ?_; assumption)))) | omega) [nx_l, nx_r, nx_n, x_st, x_push, x_bin, x_div, x_un, x_dup, x_pop, x_dup2, x_goto, x_ifeq, x_ifne, x_iflt, x_ifge, x_ifgt, x_ifle, x_iceq, x_icne, x_iclt, x_icge, x_icgt, x_icle, x_ifnull, x_ifnonnull, x_ldi, x_lda, x_sti, x_sta, x_iinc, x_gf, x_pf, x_ald, x_ast, x_aln, x_len, x_cl_, x_cv, x_cs, x_rc, x_r0, x_isT, x_oi, x_rv, x_ri, x_ra, Value.category, t97_0, t97_1, t97_3, t97_6, t97_7, t97_9, t97_12, t97_13, t97_16, t97_17, lk_s, hp_get, hp_set, uH_at, uH_ne, uH_upd, uH_swap, iZ_add, iZ_sub, iZ_mul, iZ_neg, iZ_lt, iZ_le, iZ_eq, iZ_div, iZ_of, ix_Z, gZ_map, gZ_mapI, gZ_map', le_0, le_s, sZ_map, sZ_len, bZ_0, bZ_inj, bZ_t, bZ_f, nr_i, nr_0, nr_1, nr_b, ft_i, ft_b, ft_0, ft_1, zl_0, zl_1, zl_97, zl_122, l0, h, h2, e, -List.filter_filter, -List.getElem?_map, -List.getD_eq_getElem?_getD]
end RD
