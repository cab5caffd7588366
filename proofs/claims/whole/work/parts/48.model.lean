/-! the reference: spread, whole; literals begun, looked up, measured -/
theorem f115_0 : x_fetch q_k115 0 = x_lda 1 0 := rfl
theorem t115_0 (C : xF) (s n : Nat) (z : xS) : x_to q_k115 C s (n + 1) 0 z = x_nx q_k115 C s n ((x_lda 1 0) C z) := x_to_at f115_0 C s n z
theorem f115_1 : x_fetch q_k115 1 = x_gf 4 8 18 := rfl
theorem t115_1 (C : xF) (s n : Nat) (z : xS) : x_to q_k115 C s (n + 1) 1 z = x_nx q_k115 C s n ((x_gf 4 8 18) C z) := x_to_at f115_1 C s n z
theorem f115_4 : x_fetch q_k115 4 = x_lda 5 0 := rfl
theorem t115_4 (C : xF) (s n : Nat) (z : xS) : x_to q_k115 C s (n + 1) 4 z = x_nx q_k115 C s n ((x_lda 5 0) C z) := x_to_at f115_4 C s n z
theorem f115_5 : x_fetch q_k115 5 = x_gf 8 8 22 := rfl
theorem t115_5 (C : xF) (s n : Nat) (z : xS) : x_to q_k115 C s (n + 1) 5 z = x_nx q_k115 C s n ((x_gf 8 8 22) C z) := x_to_at f115_5 C s n z
theorem f115_8 : x_fetch q_k115 8 = x_lda 9 0 := rfl
theorem t115_8 (C : xF) (s n : Nat) (z : xS) : x_to q_k115 C s (n + 1) 8 z = x_nx q_k115 C s n ((x_lda 9 0) C z) := x_to_at f115_8 C s n z
theorem f115_9 : x_fetch q_k115 9 = x_gf 12 8 21 := rfl
theorem t115_9 (C : xF) (s n : Nat) (z : xS) : x_to q_k115 C s (n + 1) 9 z = x_nx q_k115 C s n ((x_gf 12 8 21) C z) := x_to_at f115_9 C s n z
theorem f115_12 : x_fetch q_k115 12 = x_ast 13 0 (fun x => x) := rfl
theorem t115_12 (C : xF) (s n : Nat) (z : xS) : x_to q_k115 C s (n + 1) 12 z = x_nx q_k115 C s n ((x_ast 13 0 (fun x => x)) C z) := x_to_at f115_12 C s n z
theorem f115_13 : x_fetch q_k115 13 = x_lda 14 0 := rfl
theorem t115_13 (C : xF) (s n : Nat) (z : xS) : x_to q_k115 C s (n + 1) 13 z = x_nx q_k115 C s n ((x_lda 14 0) C z) := x_to_at f115_13 C s n z
theorem f115_14 : x_fetch q_k115 14 = x_gf 17 8 20 := rfl
theorem t115_14 (C : xF) (s n : Nat) (z : xS) : x_to q_k115 C s (n + 1) 14 z = x_nx q_k115 C s n ((x_gf 17 8 20) C z) := x_to_at f115_14 C s n z
theorem f115_17 : x_fetch q_k115 17 = x_lda 18 0 := rfl
theorem t115_17 (C : xF) (s n : Nat) (z : xS) : x_to q_k115 C s (n + 1) 17 z = x_nx q_k115 C s n ((x_lda 18 0) C z) := x_to_at f115_17 C s n z
theorem f115_18 : x_fetch q_k115 18 = x_gf 21 8 22 := rfl
theorem t115_18 (C : xF) (s n : Nat) (z : xS) : x_to q_k115 C s (n + 1) 18 z = x_nx q_k115 C s n ((x_gf 21 8 22) C z) := x_to_at f115_18 C s n z
theorem f115_21 : x_fetch q_k115 21 = x_ldi 22 1 := rfl
theorem t115_21 (C : xF) (s n : Nat) (z : xS) : x_to q_k115 C s (n + 1) 21 z = x_nx q_k115 C s n ((x_ldi 22 1) C z) := x_to_at f115_21 C s n z
theorem f115_22 : x_fetch q_k115 22 = x_ast 23 1 (fun x => vp_nar .boolean x) := rfl
theorem t115_22 (C : xF) (s n : Nat) (z : xS) : x_to q_k115 C s (n + 1) 22 z = x_nx q_k115 C s n ((x_ast 23 1 (fun x => vp_nar .boolean x)) C z) := x_to_at f115_22 C s n z
theorem f115_23 : x_fetch q_k115 23 = x_rv := rfl
theorem t115_23 (C : xF) (s n : Nat) (z : xS) : x_to q_k115 C s (n + 1) 23 z = x_nx q_k115 C s n ((x_rv) C z) := x_to_at f115_23 C s n z
theorem f119_0 : x_fetch q_k119 0 = x_ldi 1 2 := rfl
theorem t119_0 (C : xF) (s n : Nat) (z : xS) : x_to q_k119 C s (n + 1) 0 z = x_nx q_k119 C s n ((x_ldi 1 2) C z) := x_to_at f119_0 C s n z
theorem f119_1 : x_fetch q_k119 1 = x_st (x_iflt 18 4) := rfl
theorem t119_1 (C : xF) (s n : Nat) (z : xS) : x_to q_k119 C s (n + 1) 1 z = x_nx q_k119 C s n ((x_st (x_iflt 18 4)) C z) := x_to_at f119_1 C s n z
theorem f119_4 : x_fetch q_k119 4 = x_ldi 5 2 := rfl
theorem t119_4 (C : xF) (s n : Nat) (z : xS) : x_to q_k119 C s (n + 1) 4 z = x_nx q_k119 C s n ((x_ldi 5 2) C z) := x_to_at f119_4 C s n z
theorem f119_5 : x_fetch q_k119 5 = x_lda 6 0 := rfl
theorem t119_5 (C : xF) (s n : Nat) (z : xS) : x_to q_k119 C s (n + 1) 5 z = x_nx q_k119 C s n ((x_lda 6 0) C z) := x_to_at f119_5 C s n z
theorem f119_6 : x_fetch q_k119 6 = x_gf 9 8 5 := rfl
theorem t119_6 (C : xF) (s n : Nat) (z : xS) : x_to q_k119 C s (n + 1) 6 z = x_nx q_k119 C s n ((x_gf 9 8 5) C z) := x_to_at f119_6 C s n z
theorem f119_9 : x_fetch q_k119 9 = x_ldi 10 1 := rfl
theorem t119_9 (C : xF) (s n : Nat) (z : xS) : x_to q_k119 C s (n + 1) 9 z = x_nx q_k119 C s n ((x_ldi 10 1) C z) := x_to_at f119_9 C s n z
theorem f119_10 : x_fetch q_k119 10 = x_ald 11 0 := rfl
theorem t119_10 (C : xF) (s n : Nat) (z : xS) : x_to q_k119 C s (n + 1) 10 z = x_nx q_k119 C s n ((x_ald 11 0) C z) := x_to_at f119_10 C s n z
theorem f119_11 : x_fetch q_k119 11 = x_st (x_icge 18 14) := rfl
theorem t119_11 (C : xF) (s n : Nat) (z : xS) : x_to q_k119 C s (n + 1) 11 z = x_nx q_k119 C s n ((x_st (x_icge 18 14)) C z) := x_to_at f119_11 C s n z
theorem f119_14 : x_fetch q_k119 14 = x_st (x_push 15 (.int (1))) := rfl
theorem t119_14 (C : xF) (s n : Nat) (z : xS) : x_to q_k119 C s (n + 1) 14 z = x_nx q_k119 C s n ((x_st (x_push 15 (.int (1)))) C z) := x_to_at f119_14 C s n z
theorem f119_15 : x_fetch q_k119 15 = x_st (x_goto 19) := rfl
theorem t119_15 (C : xF) (s n : Nat) (z : xS) : x_to q_k119 C s (n + 1) 15 z = x_nx q_k119 C s n ((x_st (x_goto 19)) C z) := x_to_at f119_15 C s n z
theorem f119_18 : x_fetch q_k119 18 = x_st (x_push 19 (.int (0))) := rfl
theorem t119_18 (C : xF) (s n : Nat) (z : xS) : x_to q_k119 C s (n + 1) 18 z = x_nx q_k119 C s n ((x_st (x_push 19 (.int (0)))) C z) := x_to_at f119_18 C s n z
theorem f119_19 : x_fetch q_k119 19 = x_ri (.boolean) := rfl
theorem t119_19 (C : xF) (s n : Nat) (z : xS) : x_to q_k119 C s (n + 1) 19 z = x_nx q_k119 C s n ((x_ri (.boolean)) C z) := x_to_at f119_19 C s n z
theorem f126_0 : x_fetch q_k126 0 = x_lda 1 0 := rfl
theorem t126_0 (C : xF) (s n : Nat) (z : xS) : x_to q_k126 C s (n + 1) 0 z = x_nx q_k126 C s n ((x_lda 1 0) C z) := x_to_at f126_0 C s n z
theorem f126_1 : x_fetch q_k126 1 = x_gf 4 8 4 := rfl
theorem t126_1 (C : xF) (s n : Nat) (z : xS) : x_to q_k126 C s (n + 1) 1 z = x_nx q_k126 C s n ((x_gf 4 8 4) C z) := x_to_at f126_1 C s n z
theorem f126_4 : x_fetch q_k126 4 = x_st (x_push 6 (.int (7))) := rfl
theorem t126_4 (C : xF) (s n : Nat) (z : xS) : x_to q_k126 C s (n + 1) 4 z = x_nx q_k126 C s n ((x_st (x_push 6 (.int (7)))) C z) := x_to_at f126_4 C s n z
theorem f126_6 : x_fetch q_k126 6 = x_ldi 7 1 := rfl
theorem t126_6 (C : xF) (s n : Nat) (z : xS) : x_to q_k126 C s (n + 1) 6 z = x_nx q_k126 C s n ((x_ldi 7 1) C z) := x_to_at f126_6 C s n z
theorem f126_7 : x_fetch q_k126 7 = x_st (x_bin 8 (fun a b => a * b)) := rfl
theorem t126_7 (C : xF) (s n : Nat) (z : xS) : x_to q_k126 C s (n + 1) 7 z = x_nx q_k126 C s n ((x_st (x_bin 8 (fun a b => a * b))) C z) := x_to_at f126_7 C s n z
theorem f126_8 : x_fetch q_k126 8 = x_ldi 9 2 := rfl
theorem t126_8 (C : xF) (s n : Nat) (z : xS) : x_to q_k126 C s (n + 1) 8 z = x_nx q_k126 C s n ((x_ldi 9 2) C z) := x_to_at f126_8 C s n z
theorem f126_9 : x_fetch q_k126 9 = x_st (x_bin 10 (fun a b => a + b)) := rfl
theorem t126_9 (C : xF) (s n : Nat) (z : xS) : x_to q_k126 C s (n + 1) 9 z = x_nx q_k126 C s n ((x_st (x_bin 10 (fun a b => a + b))) C z) := x_to_at f126_9 C s n z
theorem f126_10 : x_fetch q_k126 10 = x_st (x_push 11 (.int (1))) := rfl
theorem t126_10 (C : xF) (s n : Nat) (z : xS) : x_to q_k126 C s (n + 1) 10 z = x_nx q_k126 C s n ((x_st (x_push 11 (.int (1)))) C z) := x_to_at f126_10 C s n z
theorem f126_11 : x_fetch q_k126 11 = x_st (x_bin 12 (fun a b => a + b)) := rfl
theorem t126_11 (C : xF) (s n : Nat) (z : xS) : x_to q_k126 C s (n + 1) 11 z = x_nx q_k126 C s n ((x_st (x_bin 12 (fun a b => a + b))) C z) := x_to_at f126_11 C s n z
theorem f126_12 : x_fetch q_k126 12 = x_ald 13 0 := rfl
theorem t126_12 (C : xF) (s n : Nat) (z : xS) : x_to q_k126 C s (n + 1) 12 z = x_nx q_k126 C s n ((x_ald 13 0) C z) := x_to_at f126_12 C s n z
theorem f126_13 : x_fetch q_k126 13 = x_lda 14 0 := rfl
theorem t126_13 (C : xF) (s n : Nat) (z : xS) : x_to q_k126 C s (n + 1) 13 z = x_nx q_k126 C s n ((x_lda 14 0) C z) := x_to_at f126_13 C s n z
theorem f126_14 : x_fetch q_k126 14 = x_gf 17 8 4 := rfl
theorem t126_14 (C : xF) (s n : Nat) (z : xS) : x_to q_k126 C s (n + 1) 14 z = x_nx q_k126 C s n ((x_gf 17 8 4) C z) := x_to_at f126_14 C s n z
theorem f126_17 : x_fetch q_k126 17 = x_st (x_push 19 (.int (7))) := rfl
theorem t126_17 (C : xF) (s n : Nat) (z : xS) : x_to q_k126 C s (n + 1) 17 z = x_nx q_k126 C s n ((x_st (x_push 19 (.int (7)))) C z) := x_to_at f126_17 C s n z
theorem f126_19 : x_fetch q_k126 19 = x_ldi 20 1 := rfl
theorem t126_19 (C : xF) (s n : Nat) (z : xS) : x_to q_k126 C s (n + 1) 19 z = x_nx q_k126 C s n ((x_ldi 20 1) C z) := x_to_at f126_19 C s n z
theorem f126_20 : x_fetch q_k126 20 = x_st (x_bin 21 (fun a b => a * b)) := rfl
theorem t126_20 (C : xF) (s n : Nat) (z : xS) : x_to q_k126 C s (n + 1) 20 z = x_nx q_k126 C s n ((x_st (x_bin 21 (fun a b => a * b))) C z) := x_to_at f126_20 C s n z
theorem f126_21 : x_fetch q_k126 21 = x_ldi 22 2 := rfl
theorem t126_21 (C : xF) (s n : Nat) (z : xS) : x_to q_k126 C s (n + 1) 21 z = x_nx q_k126 C s n ((x_ldi 22 2) C z) := x_to_at f126_21 C s n z
theorem f126_22 : x_fetch q_k126 22 = x_st (x_bin 23 (fun a b => a + b)) := rfl
theorem t126_22 (C : xF) (s n : Nat) (z : xS) : x_to q_k126 C s (n + 1) 22 z = x_nx q_k126 C s n ((x_st (x_bin 23 (fun a b => a + b))) C z) := x_to_at f126_22 C s n z
theorem f126_23 : x_fetch q_k126 23 = x_ald 24 0 := rfl
theorem t126_23 (C : xF) (s n : Nat) (z : xS) : x_to q_k126 C s (n + 1) 23 z = x_nx q_k126 C s n ((x_ald 24 0) C z) := x_to_at f126_23 C s n z
theorem f126_24 : x_fetch q_k126 24 = x_st (x_bin 25 (fun a b => a - b)) := rfl
theorem t126_24 (C : xF) (s n : Nat) (z : xS) : x_to q_k126 C s (n + 1) 24 z = x_nx q_k126 C s n ((x_st (x_bin 25 (fun a b => a - b))) C z) := x_to_at f126_24 C s n z
theorem f126_25 : x_fetch q_k126 25 = x_ri (.int) := rfl
theorem t126_25 (C : xF) (s n : Nat) (z : xS) : x_to q_k126 C s (n + 1) 25 z = x_nx q_k126 C s n ((x_ri (.int)) C z) := x_to_at f126_25 C s n z
section SP
variable {w : Nat → xC} {N : Nat} {m : Nat → Int} {S Bd Sa R St En : List Int} {ρ : Int → List Int}
theorem spH_0 (hm : w 27 = .inr (8, mF m)) (hR : w 38 = cI 0 R) (h10 : m 10 = 0) (St' En' : List Int) : spH w N m R (m 7) 0 St' En' = hp (uH (uH w 49 (cI 0 St')) 50 (cI 0 En')) N := by
  unfold spH
  rw [st_self (show m 7 = m 7 from rfl), st_self h10, uH_self hm, uH_self hR]
theorem m114 (d : Nat) (hN : 53 ≤ N) (hm : w 27 = .inr (8, mF m)) (h10 : m 10 = 0) (hR : w 38 = cI 0 R) (hrl : R.length = 600) (hSt : w 49 = cI 0 St) (hEn : w 50 = cI 0 En) (s1 : St.length = 400) (s2 : En.length = 400) (hS : w 45 = cI 0 S) (hB : w 46 = cI 0 Bd) (hA : w 39 = cI 0 Sa) (hal : Sa.length = 14) (a0 : 0 ≤ m 8) (a1 : m 8 < 14) (z0 : 0 ≤ gZ Sa (m 8)) (z1 : gZ Sa (m 8) < 500) (z2 : gZ Sa (m 8) ≤ m 7) (z3 : m 7 - gZ Sa (m 8) ≤ 40) (hl : S.length < 10000) (hbl : Bd.length = 52) (hr : ∀ i, 0 ≤ gZ S i ∧ gZ S i < 100000) (hv : ∀ i, gZ S i < 99 → gZ S i < 52) (hb : ∀ v, 0 ≤ v → v < 52 → -1 ≤ gZ Bd v ∧ gZ Bd v < S.length) (hbT : ∀ v, 0 ≤ v → v < 52 → 0 ≤ gZ Bd v → Ts 1 (tm S (gZ Bd v).toNat)) (hρ : RB S (bdf Bd) ρ) (hne : ∀ v, ρ v ≠ [])
    (a b : Int) (h0 : 0 ≤ a) (h1 : a ≤ b) (h2 : b ≤ S.length) :
    (m 7 - gZ Sa (m 8) + (er (sub ρ (seg S a b))).length ≤ 40 → ∃ St' En' : List Int, St'.length = 400 ∧ En'.length = 400 ∧ Xc (d + 3) 114 [.ref 30, .int (iZ a), .int (iZ b)] (hp w N) (none, spH w N m (wrL R (m 7) (er (sub ρ (seg S a b)))) (m 7 + (er (sub ρ (seg S a b))).length) 0 St' En')) ∧
    (40 < m 7 - gZ Sa (m 8) + (er (sub ρ (seg S a b))).length → ∃ (St' En' R' : List Int) (rw' : Int), St'.length = 400 ∧ En'.length = 400 ∧ R'.length = 600 ∧ gZ Sa (m 8) ≤ rw' ∧ rw' - gZ Sa (m 8) ≤ 40 ∧ Xc (d + 3) 114 [.ref 30, .int (iZ a), .int (iZ b)] (hp w N) (none, spH w N m R' rw' 1 St' En')) := by
  have e1 : gZ (sZ St 0 a) 0 = a := by rw [gZ_sZ (by omega) (by omega) (by omega), if_pos rfl]
  have e2 : gZ (sZ En 0 b) 0 = b := by rw [gZ_sZ (by omega) (by omega) (by omega), if_pos rfl]
  have hF : FrOK S ρ (sZ St 0 a) (sZ En 0 b) [] := by
    show 0 ≤ gZ (sZ St 0 a) 0 ∧ gZ (sZ St 0 a) 0 ≤ gZ (sZ En 0 b) 0 ∧ gZ (sZ En 0 b) 0 ≤ _
    rw [e1, e2]
    omega
  have etr : frT S ρ (sZ St 0 a) (sZ En 0 b) (([] : List Int).length + 1) = sub ρ (seg S a b) := by
    show sub ρ (seg S (gZ (sZ St 0 a) 0) (gZ (sZ En 0 b) 0)) ++ [] = _
    rw [e1, e2, List.append_nil]
  have hc : c1 (lv_args 0 [.ref 30, .int (iZ a), .int (iZ b)]) := by simp [c1, lv_args, Value.category]
  have l0 : x_lk (lv_args 0 [.ref 30, .int (iZ a), .int (iZ b)]) 0 = some (.ref 30) := rfl
  have l1 : x_lk (lv_args 0 [.ref 30, .int (iZ a), .int (iZ b)]) 1 = some (.int (iZ a)) := rfl
  have l2 : x_lk (lv_args 0 [.ref 30, .int (iZ a), .int (iZ b)]) 2 = some (.int (iZ b)) := rfl
  have k := l114 (m := m) d hN hS hB hA hal a0 a1 z0 z1 hl hbl hr hv hb hbT hρ hne _ (sZ St 0 a) (sZ En 0 b) [] R 1 (m 7) ((3, .int (iZ 1)) :: List.filter (x_keep 3) (lv_args 0 [.ref 30, .int (iZ a), .int (iZ b)])) (by rw [sZ_len]; exact s1) (by rw [sZ_len]; exact s2) hrl z2 z3 rfl hF (Nat.le_refl _) (c1_st rfl hc) (by rw [lk_s hc]; exact l0) (by rw [lk_s hc]; rfl)
  rw [etr, spH_0 hm hR h10] at k
  have step : ∀ res, x_le (hp w N) res.2 → Gx q_k114 (d + 2) 16 ((3, .int (iZ 1)) :: List.filter (x_keep 3) (lv_args 0 [.ref 30, .int (iZ a), .int (iZ b)]), [], hp (uH (uH w 49 (cI 0 (sZ St 0 a))) 50 (cI 0 (sZ En 0 b))) N) res → Xc (d + 3) 114 [.ref 30, .int (iZ a), .int (iZ b)] (hp w N) res := fun res hle k3 => by
    refine Xc.of rfl (by simp [lg_sl, Value.category]) ?_ hle
    generalize lv_args 0 [.ref 30, .int (iZ a), .int (iZ b)] = lv at hc l0 l1 l2 k3
    refine Gx.run 60 Cs.tt (fun C _ => ?_) k3
    simp (disch := first | (refine c1_id ?_; assumption) | (refine c1_st rfl ?_; first | assumption | (refine c1_st rfl ?_; first | assumption | (refine c1_st rfl ?_; first | assumption | (refine c1_st rfl ?_; assumption)))) | omega) [nx_l, nx_r, nx_n, x_st, x_push, x_bin, x_div, x_un, x_dup, x_pop, x_dup2, x_goto, x_ifeq, x_ifne, x_iflt, x_ifge, x_ifgt, x_ifle, x_iceq, x_icne, x_iclt, x_icge, x_icgt, x_icle, x_ifnull, x_ifnonnull, x_ldi, x_lda, x_sti, x_sta, x_iinc, x_gf, x_pf, x_ald, x_ast, x_aln, x_len, x_cl_, x_cv, x_cs, x_rc, x_r0, x_isT, x_oi, x_rv, x_ri, x_ra, Value.category, t114_0, t114_1, t114_2, t114_3, t114_6, t114_7, t114_8, t114_9, t114_10, t114_13, t114_14, t114_15, t114_16, t114_17, t114_20, t114_21, t114_24, t114_27, t114_28, t114_31, t114_32, t114_33, t114_34, t114_35, t114_37, t114_39, t114_40, t114_43, t114_44, t114_45, t114_46, t114_47, t114_50, t114_53, t114_56, t114_57, t114_60, t114_61, t114_62, t114_63, t114_64, t114_65, t114_66, t114_67, t114_68, t114_69, t114_72, t114_74, t114_75, t114_77, t114_79, t114_81, t114_84, t114_85, t114_88, t114_90, t114_91, t114_94, t114_95, t114_98, t114_99, t114_100, t114_103, t114_105, t114_106, t114_107, t114_108, t114_111, t114_112, t114_113, t114_114, t114_117, t114_119, t114_120, t114_123, t114_124, t114_127, t114_130, t114_131, t114_132, t114_135, t114_136, t114_139, t114_140, t114_143, t114_144, t114_145, t114_147, t114_150, t114_151, t114_154, t114_155, t114_158, t114_159, t114_162, t114_165, t114_166, t114_168, t114_171, t114_174, lk_s, hp_get, hp_set, uH_at, uH_ne, uH_upd, uH_swap, iZ_add, iZ_sub, iZ_mul, iZ_neg, iZ_lt, iZ_le, iZ_eq, iZ_div, iZ_of, ix_Z, gZ_map, gZ_mapI, gZ_map', le_0, le_s, sZ_map, sZ_len, bZ_0, bZ_inj, bZ_t, bZ_f, nr_i, nr_0, nr_1, nr_b, ft_i, ft_b, ft_0, ft_1, zl_0, zl_1, zl_40, zl_99, mF_len, mg_0, mg_1, mg_2, mg_3, mg_4, mg_5, mg_6, mg_7, mg_8, mg_9, mg_10, mg_11, mg_12, mg_13, mg_14, mg_15, mg_16, mg_17, mg_18, mg_19, mg_20, mg_21, mg_22, mg_23, mg_24, mg_25, mg_26, mg_27, mg_28, mg_29, mg_30, mg_31, mg_32, mg_33, mg_34, mg_35, mg_36, mg_37, mg_38, ms_0, ms_1, ms_2, ms_13, ms_14, ms_15, ms_16, ms_21, ms_22, ms_23, ms_24, ms_28, ms_36, ms_37, ms_38, st_at, st_ne, st_st, st_swap, l0, l1, l2, hm, hSt, hEn, -List.filter_filter, -List.getElem?_map, -List.getD_eq_getElem?_getD]
  refine ⟨fun h9 => ?_, fun h9 => ?_⟩
  · obtain ⟨St', En', k1, k2, k3⟩ := k.1 h9
    refine ⟨St', En', k1, k2, step _ ?_ k3⟩
    have hw := wrL_len (er (sub ρ (seg S a b))) R (m 7)
    refine hp_le (Nat.le_refl _) (fun j _ => by (simp only [uH]; repeat' split) <;> simp_all [x_c1, sZ_len, cpl_len, mF_len])
  · obtain ⟨St', En', R', r', k1, k2, k3, k4, k5, k6⟩ := k.2 h9
    refine ⟨St', En', R', r', k1, k2, k3, k4, k5, step _ ?_ k6⟩
    refine hp_le (Nat.le_refl _) (fun j _ => by (simp only [uH]; repeat' split) <;> simp_all [x_c1, sZ_len, cpl_len, mF_len])
/-- nothing is laid out once it is too great -/
theorem m114g (d : Nat) (hN : 53 ≤ N) (hm : w 27 = .inr (8, mF m)) (h10 : m 10 = 1) (hSt : w 49 = cI 0 St) (hEn : w 50 = cI 0 En) (s1 : St.length = 400) (s2 : En.length = 400) (a b : Int) :
    Xc (d + 3) 114 [.ref 30, .int (iZ a), .int (iZ b)] (hp w N) (none, hp (uH (uH w 49 (cI 0 (sZ St 0 a))) 50 (cI 0 (sZ En 0 b))) N) := by
  refine Xc.of rfl (by simp [lg_sl, Value.category]) ?_ (hp_le (Nat.le_refl _) (fun j _ => by (simp only [uH]; repeat' split) <;> simp_all [x_c1, sZ_len, cpl_len, mF_len]))
  have hc : c1 (lv_args 0 [.ref 30, .int (iZ a), .int (iZ b)]) := by simp [c1, lv_args, Value.category]
  have l0 : x_lk (lv_args 0 [.ref 30, .int (iZ a), .int (iZ b)]) 0 = some (.ref 30) := rfl
  have l1 : x_lk (lv_args 0 [.ref 30, .int (iZ a), .int (iZ b)]) 1 = some (.int (iZ a)) := rfl
  have l2 : x_lk (lv_args 0 [.ref 30, .int (iZ a), .int (iZ b)]) 2 = some (.int (iZ b)) := rfl
  generalize lv_args 0 [.ref 30, .int (iZ a), .int (iZ b)] = lv at hc l0 l1 l2
  refine Gx.fin 60 Cs.tt (fun C _ => ?_)
  simp (disch := first | (refine c1_id ?_; assumption) | (refine c1_st rfl ?_; first | assumption | (refine c1_st rfl ?_; first | assumption | (refine c1_st rfl ?_; first | assumption | (refine c1_st rfl ?_; assumption)))) | omega) [nx_l, nx_r, nx_n, x_st, x_push, x_bin, x_div, x_un, x_dup, x_pop, x_dup2, x_goto, x_ifeq, x_ifne, x_iflt, x_ifge, x_ifgt, x_ifle, x_iceq, x_icne, x_iclt, x_icge, x_icgt, x_icle, x_ifnull, x_ifnonnull, x_ldi, x_lda, x_sti, x_sta, x_iinc, x_gf, x_pf, x_ald, x_ast, x_aln, x_len, x_cl_, x_cv, x_cs, x_rc, x_r0, x_isT, x_oi, x_rv, x_ri, x_ra, Value.category, t114_0, t114_1, t114_2, t114_3, t114_6, t114_7, t114_8, t114_9, t114_10, t114_13, t114_14, t114_15, t114_16, t114_17, t114_20, t114_21, t114_24, t114_27, t114_28, t114_31, t114_32, t114_33, t114_34, t114_35, t114_37, t114_39, t114_40, t114_43, t114_44, t114_45, t114_46, t114_47, t114_50, t114_53, t114_56, t114_57, t114_60, t114_61, t114_62, t114_63, t114_64, t114_65, t114_66, t114_67, t114_68, t114_69, t114_72, t114_74, t114_75, t114_77, t114_79, t114_81, t114_84, t114_85, t114_88, t114_90, t114_91, t114_94, t114_95, t114_98, t114_99, t114_100, t114_103, t114_105, t114_106, t114_107, t114_108, t114_111, t114_112, t114_113, t114_114, t114_117, t114_119, t114_120, t114_123, t114_124, t114_127, t114_130, t114_131, t114_132, t114_135, t114_136, t114_139, t114_140, t114_143, t114_144, t114_145, t114_147, t114_150, t114_151, t114_154, t114_155, t114_158, t114_159, t114_162, t114_165, t114_166, t114_168, t114_171, t114_174, lk_s, hp_get, hp_set, uH_at, uH_ne, uH_upd, uH_swap, iZ_add, iZ_sub, iZ_mul, iZ_neg, iZ_lt, iZ_le, iZ_eq, iZ_div, iZ_of, ix_Z, gZ_map, gZ_mapI, gZ_map', le_0, le_s, sZ_map, sZ_len, bZ_0, bZ_inj, bZ_t, bZ_f, nr_i, nr_0, nr_1, nr_b, ft_i, ft_b, ft_0, ft_1, zl_0, zl_1, zl_40, zl_99, mF_len, mg_0, mg_1, mg_2, mg_3, mg_4, mg_5, mg_6, mg_7, mg_8, mg_9, mg_10, mg_11, mg_12, mg_13, mg_14, mg_15, mg_16, mg_17, mg_18, mg_19, mg_20, mg_21, mg_22, mg_23, mg_24, mg_25, mg_26, mg_27, mg_28, mg_29, mg_30, mg_31, mg_32, mg_33, mg_34, mg_35, mg_36, mg_37, mg_38, ms_0, ms_1, ms_2, ms_13, ms_14, ms_15, ms_16, ms_21, ms_22, ms_23, ms_24, ms_28, ms_36, ms_37, ms_38, st_at, st_ne, st_st, st_swap, l0, l1, l2, hm, hSt, hEn, h10, -List.filter_filter, -List.getElem?_map, -List.getD_eq_getElem?_getD]
end SP
section SM
variable {w : Nat → xC} {N : Nat} {m : Nat → Int} {S T U V : List Int}
theorem m115 (d : Nat) (hN : 53 ≤ N) (hm : w 27 = .inr (8, mF m)) (hA : w 39 = cI 0 S) (hM : w 41 = cI 1 T) (s1 : S.length = 14) (s2 : T.length = 14) (h0 : 0 ≤ m 8) (h1 : m 8 < 14) (b : Bool) :
    Xc (d + 1) 115 [.ref 30, .int (iZ (bZ b))] (hp w N) (none, hp (uH (uH w 39 (cI 0 (sZ S (m 8) (m 7)))) 41 (cI 1 (sZ T (m 8) (bZ b)))) N) := by
  refine Xc.of rfl (by simp [lg_sl, Value.category]) ?_ (hp_le (Nat.le_refl _) (fun j _ => by (simp only [uH]; repeat' split) <;> simp_all [x_c1, sZ_len, cpl_len, mF_len]))
  have hc : c1 (lv_args 0 [.ref 30, .int (iZ (bZ b))]) := by simp [c1, lv_args, Value.category]
  have l0 : x_lk (lv_args 0 [.ref 30, .int (iZ (bZ b))]) 0 = some (.ref 30) := rfl
  have l1 : x_lk (lv_args 0 [.ref 30, .int (iZ (bZ b))]) 1 = some (.int (iZ (bZ b))) := rfl
  generalize lv_args 0 [.ref 30, .int (iZ (bZ b))] = lv at hc l0 l1
  refine Gx.fin 60 Cs.tt (fun C _ => ?_)
  have q : vp_nar .boolean (iZ (bZ b)) = iZ (bZ b) := by cases b <;> decide
  simp (disch := first | (refine c1_id ?_; assumption) | (refine c1_st rfl ?_; first | assumption | (refine c1_st rfl ?_; first | assumption | (refine c1_st rfl ?_; first | assumption | (refine c1_st rfl ?_; assumption)))) | omega) [nx_l, nx_r, nx_n, x_st, x_push, x_bin, x_div, x_un, x_dup, x_pop, x_dup2, x_goto, x_ifeq, x_ifne, x_iflt, x_ifge, x_ifgt, x_ifle, x_iceq, x_icne, x_iclt, x_icge, x_icgt, x_icle, x_ifnull, x_ifnonnull, x_ldi, x_lda, x_sti, x_sta, x_iinc, x_gf, x_pf, x_ald, x_ast, x_aln, x_len, x_cl_, x_cv, x_cs, x_rc, x_r0, x_isT, x_oi, x_rv, x_ri, x_ra, Value.category, t115_0, t115_1, t115_4, t115_5, t115_8, t115_9, t115_12, t115_13, t115_14, t115_17, t115_18, t115_21, t115_22, t115_23, lk_s, hp_get, hp_set, uH_at, uH_ne, uH_upd, uH_swap, iZ_add, iZ_sub, iZ_mul, iZ_neg, iZ_lt, iZ_le, iZ_eq, iZ_div, iZ_of, ix_Z, gZ_map, gZ_mapI, gZ_map', le_0, le_s, sZ_map, sZ_len, bZ_0, bZ_inj, bZ_t, bZ_f, nr_i, nr_0, nr_1, nr_b, ft_i, ft_b, ft_0, ft_1, zl_0, zl_1, mF_len, mg_0, mg_1, mg_2, mg_3, mg_4, mg_5, mg_6, mg_7, mg_8, mg_9, mg_10, mg_11, mg_12, mg_13, mg_14, mg_15, mg_16, mg_17, mg_18, mg_19, mg_20, mg_21, mg_22, mg_23, mg_24, mg_25, mg_26, mg_27, mg_28, mg_29, mg_30, mg_31, mg_32, mg_33, mg_34, mg_35, mg_36, mg_37, mg_38, ms_0, ms_1, ms_2, ms_13, ms_14, ms_15, ms_16, ms_21, ms_22, ms_23, ms_24, ms_28, ms_36, ms_37, ms_38, st_at, st_ne, st_st, st_swap, l0, l1, hm, hA, hM, q, -List.filter_filter, -List.getElem?_map, -List.getD_eq_getElem?_getD]
theorem m119 (d : Nat) (hN : 53 ≤ N) (hm : w 27 = .inr (8, mF m)) (hA : w 30 = cI 0 S) (s1 : S.length = 30) (c k : Int) (c0 : 0 ≤ c) (c1_ : c < 30) (k0 : -2147483648 ≤ k) (k1 : k < 2147483648) (hr : 0 ≤ gZ S c ∧ gZ S c < 100) :
    Xc (d + 1) 119 [.ref 30, .int (iZ c), .int (iZ k)] (hp w N) (some (.int (iZ (bZ (decide (0 ≤ k ∧ k < gZ S c))))), hp w N) := by
  refine Xc.of rfl (by simp [lg_sl, Value.category]) ?_ (x_le.rf)
  have hc : c1 (lv_args 0 [.ref 30, .int (iZ c), .int (iZ k)]) := by simp [c1, lv_args, Value.category]
  have l0 : x_lk (lv_args 0 [.ref 30, .int (iZ c), .int (iZ k)]) 0 = some (.ref 30) := rfl
  have l1 : x_lk (lv_args 0 [.ref 30, .int (iZ c), .int (iZ k)]) 1 = some (.int (iZ c)) := rfl
  have l2 : x_lk (lv_args 0 [.ref 30, .int (iZ c), .int (iZ k)]) 2 = some (.int (iZ k)) := rfl
  generalize lv_args 0 [.ref 30, .int (iZ c), .int (iZ k)] = lv at hc l0 l1 l2
  refine Gx.fin 60 Cs.tt (fun C _ => ?_)
  by_cases h : k < 0
  · have e : decide (0 ≤ k ∧ k < gZ S c) = false := decide_eq_false (by omega)
    simp (disch := first | (refine c1_id ?_; assumption) | (refine c1_st rfl ?_; first | assumption | (refine c1_st rfl ?_; first | assumption | (refine c1_st rfl ?_; first | assumption | (refine c1_st rfl ?_; assumption)))) | omega) [nx_l, nx_r, nx_n, x_st, x_push, x_bin, x_div, x_un, x_dup, x_pop, x_dup2, x_goto, x_ifeq, x_ifne, x_iflt, x_ifge, x_ifgt, x_ifle, x_iceq, x_icne, x_iclt, x_icge, x_icgt, x_icle, x_ifnull, x_ifnonnull, x_ldi, x_lda, x_sti, x_sta, x_iinc, x_gf, x_pf, x_ald, x_ast, x_aln, x_len, x_cl_, x_cv, x_cs, x_rc, x_r0, x_isT, x_oi, x_rv, x_ri, x_ra, Value.category, t119_0, t119_1, t119_4, t119_5, t119_6, t119_9, t119_10, t119_11, t119_14, t119_15, t119_18, t119_19, lk_s, hp_get, hp_set, uH_at, uH_ne, uH_upd, uH_swap, iZ_add, iZ_sub, iZ_mul, iZ_neg, iZ_lt, iZ_le, iZ_eq, iZ_div, iZ_of, ix_Z, gZ_map, gZ_mapI, gZ_map', le_0, le_s, sZ_map, sZ_len, bZ_0, bZ_inj, bZ_t, bZ_f, nr_i, nr_0, nr_1, nr_b, ft_i, ft_b, ft_0, ft_1, zl_0, zl_1, mF_len, mg_0, mg_1, mg_2, mg_3, mg_4, mg_5, mg_6, mg_7, mg_8, mg_9, mg_10, mg_11, mg_12, mg_13, mg_14, mg_15, mg_16, mg_17, mg_18, mg_19, mg_20, mg_21, mg_22, mg_23, mg_24, mg_25, mg_26, mg_27, mg_28, mg_29, mg_30, mg_31, mg_32, mg_33, mg_34, mg_35, mg_36, mg_37, mg_38, ms_0, ms_1, ms_2, ms_13, ms_14, ms_15, ms_16, ms_21, ms_22, ms_23, ms_24, ms_28, ms_36, ms_37, ms_38, st_at, st_ne, st_st, st_swap, l0, l1, l2, hm, hA, h, e, -List.filter_filter, -List.getElem?_map, -List.getD_eq_getElem?_getD]
  · by_cases h2 : gZ S c ≤ k
    · have e : decide (0 ≤ k ∧ k < gZ S c) = false := decide_eq_false (by omega)
      simp (disch := first | (refine c1_id ?_; assumption) | (refine c1_st rfl ?_; first | assumption | (refine c1_st rfl ?_; first | assumption | (refine c1_st rfl ?_; first | assumption | (refine c1_st rfl ?_; assumption)))) | omega) [nx_l, nx_r, nx_n, x_st, x_push, x_bin, x_div, x_un, x_dup, x_pop, x_dup2, x_goto, x_ifeq, x_ifne, x_iflt, x_ifge, x_ifgt, x_ifle, x_iceq, x_icne, x_iclt, x_icge, x_icgt, x_icle, x_ifnull, x_ifnonnull, x_ldi, x_lda, x_sti, x_sta, x_iinc, x_gf, x_pf, x_ald, x_ast, x_aln, x_len, x_cl_, x_cv, x_cs, x_rc, x_r0, x_isT, x_oi, x_rv, x_ri, x_ra, Value.category, t119_0, t119_1, t119_4, t119_5, t119_6, t119_9, t119_10, t119_11, t119_14, t119_15, t119_18, t119_19, lk_s, hp_get, hp_set, uH_at, uH_ne, uH_upd, uH_swap, iZ_add, iZ_sub, iZ_mul, iZ_neg, iZ_lt, iZ_le, iZ_eq, iZ_div, iZ_of, ix_Z, gZ_map, gZ_mapI, gZ_map', le_0, le_s, sZ_map, sZ_len, bZ_0, bZ_inj, bZ_t, bZ_f, nr_i, nr_0, nr_1, nr_b, ft_i, ft_b, ft_0, ft_1, zl_0, zl_1, mF_len, mg_0, mg_1, mg_2, mg_3, mg_4, mg_5, mg_6, mg_7, mg_8, mg_9, mg_10, mg_11, mg_12, mg_13, mg_14, mg_15, mg_16, mg_17, mg_18, mg_19, mg_20, mg_21, mg_22, mg_23, mg_24, mg_25, mg_26, mg_27, mg_28, mg_29, mg_30, mg_31, mg_32, mg_33, mg_34, mg_35, mg_36, mg_37, mg_38, ms_0, ms_1, ms_2, ms_13, ms_14, ms_15, ms_16, ms_21, ms_22, ms_23, ms_24, ms_28, ms_36, ms_37, ms_38, st_at, st_ne, st_st, st_swap, l0, l1, l2, hm, hA, h, h2, e, -List.filter_filter, -List.getElem?_map, -List.getD_eq_getElem?_getD]
    · have e : decide (0 ≤ k ∧ k < gZ S c) = true := decide_eq_true (by omega)
      simp (disch := first | (refine c1_id ?_; assumption) | (refine c1_st rfl ?_; first | assumption | (refine c1_st rfl ?_; first | assumption | (refine c1_st rfl ?_; first | assumption | (refine c1_st rfl ?_; assumption)))) | omega) [nx_l, nx_r, nx_n, x_st, x_push, x_bin, x_div, x_un, x_dup, x_pop, x_dup2, x_goto, x_ifeq, x_ifne, x_iflt, x_ifge, x_ifgt, x_ifle, x_iceq, x_icne, x_iclt, x_icge, x_icgt, x_icle, x_ifnull, x_ifnonnull, x_ldi, x_lda, x_sti, x_sta, x_iinc, x_gf, x_pf, x_ald, x_ast, x_aln, x_len, x_cl_, x_cv, x_cs, x_rc, x_r0, x_isT, x_oi, x_rv, x_ri, x_ra, Value.category, t119_0, t119_1, t119_4, t119_5, t119_6, t119_9, t119_10, t119_11, t119_14, t119_15, t119_18, t119_19, lk_s, hp_get, hp_set, uH_at, uH_ne, uH_upd, uH_swap, iZ_add, iZ_sub, iZ_mul, iZ_neg, iZ_lt, iZ_le, iZ_eq, iZ_div, iZ_of, ix_Z, gZ_map, gZ_mapI, gZ_map', le_0, le_s, sZ_map, sZ_len, bZ_0, bZ_inj, bZ_t, bZ_f, nr_i, nr_0, nr_1, nr_b, ft_i, ft_b, ft_0, ft_1, zl_0, zl_1, mF_len, mg_0, mg_1, mg_2, mg_3, mg_4, mg_5, mg_6, mg_7, mg_8, mg_9, mg_10, mg_11, mg_12, mg_13, mg_14, mg_15, mg_16, mg_17, mg_18, mg_19, mg_20, mg_21, mg_22, mg_23, mg_24, mg_25, mg_26, mg_27, mg_28, mg_29, mg_30, mg_31, mg_32, mg_33, mg_34, mg_35, mg_36, mg_37, mg_38, ms_0, ms_1, ms_2, ms_13, ms_14, ms_15, ms_16, ms_21, ms_22, ms_23, ms_24, ms_28, ms_36, ms_37, ms_38, st_at, st_ne, st_st, st_swap, l0, l1, l2, hm, hA, h, h2, e, -List.filter_filter, -List.getElem?_map, -List.getD_eq_getElem?_getD]
theorem m126 (d : Nat) (hN : 53 ≤ N) (hm : w 27 = .inr (8, mF m)) (hA : w 29 = cI 0 S) (s1 : S.length = 210) (c l : Int) (c0 : 0 ≤ c) (c1_ : c < 30) (k0 : 0 ≤ l) (k1 : l < 6) :
    Xc (d + 1) 126 [.ref 30, .int (iZ c), .int (iZ l)] (hp w N) (some (.int (iZ (gZ S (7 * c + l + 1) - gZ S (7 * c + l)))), hp w N) := by
  refine Xc.of rfl (by simp [lg_sl, Value.category]) ?_ (x_le.rf)
  have hc : c1 (lv_args 0 [.ref 30, .int (iZ c), .int (iZ l)]) := by simp [c1, lv_args, Value.category]
  have l0 : x_lk (lv_args 0 [.ref 30, .int (iZ c), .int (iZ l)]) 0 = some (.ref 30) := rfl
  have l1 : x_lk (lv_args 0 [.ref 30, .int (iZ c), .int (iZ l)]) 1 = some (.int (iZ c)) := rfl
  have l2 : x_lk (lv_args 0 [.ref 30, .int (iZ c), .int (iZ l)]) 2 = some (.int (iZ l)) := rfl
  generalize lv_args 0 [.ref 30, .int (iZ c), .int (iZ l)] = lv at hc l0 l1 l2
  refine Gx.fin 60 Cs.tt (fun C _ => ?_)
  simp (disch := first | (refine c1_id ?_; assumption) | (refine c1_st rfl ?_; first | assumption | (refine c1_st rfl ?_; first | assumption | (refine c1_st rfl ?_; first | assumption | (refine c1_st rfl ?_; assumption)))) | omega) [nx_l, nx_r, nx_n, x_st, x_push, x_bin, x_div, x_un, x_dup, x_pop, x_dup2, x_goto, x_ifeq, x_ifne, x_iflt, x_ifge, x_ifgt, x_ifle, x_iceq, x_icne, x_iclt, x_icge, x_icgt, x_icle, x_ifnull, x_ifnonnull, x_ldi, x_lda, x_sti, x_sta, x_iinc, x_gf, x_pf, x_ald, x_ast, x_aln, x_len, x_cl_, x_cv, x_cs, x_rc, x_r0, x_isT, x_oi, x_rv, x_ri, x_ra, Value.category, t126_0, t126_1, t126_4, t126_6, t126_7, t126_8, t126_9, t126_10, t126_11, t126_12, t126_13, t126_14, t126_17, t126_19, t126_20, t126_21, t126_22, t126_23, t126_24, t126_25, lk_s, hp_get, hp_set, uH_at, uH_ne, uH_upd, uH_swap, iZ_add, iZ_sub, iZ_mul, iZ_neg, iZ_lt, iZ_le, iZ_eq, iZ_div, iZ_of, ix_Z, gZ_map, gZ_mapI, gZ_map', le_0, le_s, sZ_map, sZ_len, bZ_0, bZ_inj, bZ_t, bZ_f, nr_i, nr_0, nr_1, nr_b, ft_i, ft_b, ft_0, ft_1, zl_0, zl_1, zl_7, mF_len, mg_0, mg_1, mg_2, mg_3, mg_4, mg_5, mg_6, mg_7, mg_8, mg_9, mg_10, mg_11, mg_12, mg_13, mg_14, mg_15, mg_16, mg_17, mg_18, mg_19, mg_20, mg_21, mg_22, mg_23, mg_24, mg_25, mg_26, mg_27, mg_28, mg_29, mg_30, mg_31, mg_32, mg_33, mg_34, mg_35, mg_36, mg_37, mg_38, ms_0, ms_1, ms_2, ms_13, ms_14, ms_15, ms_16, ms_21, ms_22, ms_23, ms_24, ms_28, ms_36, ms_37, ms_38, st_at, st_ne, st_st, st_swap, l0, l1, l2, hm, hA, -List.filter_filter, -List.getElem?_map, -List.getD_eq_getElem?_getD]
end SM
