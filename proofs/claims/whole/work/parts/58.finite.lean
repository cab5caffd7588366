/-! the class's graph: whether the terms of a place are finite; every place to its top -/
theorem f49_0 : x_fetch q_k49 0 = x_lda 1 0 := rfl
theorem t49_0 (C : xF) (s n : Nat) (z : xS) : x_to q_k49 C s (n + 1) 0 z = x_nx q_k49 C s n ((x_lda 1 0) C z) := x_to_at f49_0 C s n z
theorem f49_1 : x_fetch q_k49 1 = x_gf 4 5 0 := rfl
theorem t49_1 (C : xF) (s n : Nat) (z : xS) : x_to q_k49 C s (n + 1) 1 z = x_nx q_k49 C s n ((x_gf 4 5 0) C z) := x_to_at f49_1 C s n z
theorem f49_4 : x_fetch q_k49 4 = x_ldi 5 1 := rfl
theorem t49_4 (C : xF) (s n : Nat) (z : xS) : x_to q_k49 C s (n + 1) 4 z = x_nx q_k49 C s n ((x_ldi 5 1) C z) := x_to_at f49_4 C s n z
theorem f49_5 : x_fetch q_k49 5 = x_ald 6 0 := rfl
theorem t49_5 (C : xF) (s n : Nat) (z : xS) : x_to q_k49 C s (n + 1) 5 z = x_nx q_k49 C s n ((x_ald 6 0) C z) := x_to_at f49_5 C s n z
theorem f49_6 : x_fetch q_k49 6 = x_cl_ 9 5 1 := rfl
theorem t49_6 (C : xF) (s n : Nat) (z : xS) : x_to q_k49 C s (n + 1) 6 z = x_nx q_k49 C s n ((x_cl_ 9 5 1) C z) := x_to_at f49_6 C s n z
theorem f49_9 : x_fetch q_k49 9 = x_sti 10 2 := rfl
theorem t49_9 (C : xF) (s n : Nat) (z : xS) : x_to q_k49 C s (n + 1) 9 z = x_nx q_k49 C s n ((x_sti 10 2) C z) := x_to_at f49_9 C s n z
theorem f49_10 : x_fetch q_k49 10 = x_ldi 11 1 := rfl
theorem t49_10 (C : xF) (s n : Nat) (z : xS) : x_to q_k49 C s (n + 1) 10 z = x_nx q_k49 C s n ((x_ldi 11 1) C z) := x_to_at f49_10 C s n z
theorem f49_11 : x_fetch q_k49 11 = x_st (x_push 12 (.int (1))) := rfl
theorem t49_11 (C : xF) (s n : Nat) (z : xS) : x_to q_k49 C s (n + 1) 11 z = x_nx q_k49 C s n ((x_st (x_push 12 (.int (1)))) C z) := x_to_at f49_11 C s n z
theorem f49_12 : x_fetch q_k49 12 = x_st (x_bin 13 (fun a b => a + b)) := rfl
theorem t49_12 (C : xF) (s n : Nat) (z : xS) : x_to q_k49 C s (n + 1) 12 z = x_nx q_k49 C s n ((x_st (x_bin 13 (fun a b => a + b))) C z) := x_to_at f49_12 C s n z
theorem f49_13 : x_fetch q_k49 13 = x_sti 14 3 := rfl
theorem t49_13 (C : xF) (s n : Nat) (z : xS) : x_to q_k49 C s (n + 1) 13 z = x_nx q_k49 C s n ((x_sti 14 3) C z) := x_to_at f49_13 C s n z
theorem f49_14 : x_fetch q_k49 14 = x_st (x_push 15 (.int (0))) := rfl
theorem t49_14 (C : xF) (s n : Nat) (z : xS) : x_to q_k49 C s (n + 1) 14 z = x_nx q_k49 C s n ((x_st (x_push 15 (.int (0)))) C z) := x_to_at f49_14 C s n z
theorem f49_15 : x_fetch q_k49 15 = x_sti 17 4 := rfl
theorem t49_15 (C : xF) (s n : Nat) (z : xS) : x_to q_k49 C s (n + 1) 15 z = x_nx q_k49 C s n ((x_sti 17 4) C z) := x_to_at f49_15 C s n z
theorem f49_17 : x_fetch q_k49 17 = x_ldi 19 4 := rfl
theorem t49_17 (C : xF) (s n : Nat) (z : xS) : x_to q_k49 C s (n + 1) 17 z = x_nx q_k49 C s n ((x_ldi 19 4) C z) := x_to_at f49_17 C s n z
theorem f49_19 : x_fetch q_k49 19 = x_ldi 20 2 := rfl
theorem t49_19 (C : xF) (s n : Nat) (z : xS) : x_to q_k49 C s (n + 1) 19 z = x_nx q_k49 C s n ((x_ldi 20 2) C z) := x_to_at f49_19 C s n z
theorem f49_20 : x_fetch q_k49 20 = x_st (x_icge 60 23) := rfl
theorem t49_20 (C : xF) (s n : Nat) (z : xS) : x_to q_k49 C s (n + 1) 20 z = x_nx q_k49 C s n ((x_st (x_icge 60 23)) C z) := x_to_at f49_20 C s n z
theorem f49_23 : x_fetch q_k49 23 = x_ldi 24 3 := rfl
theorem t49_23 (C : xF) (s n : Nat) (z : xS) : x_to q_k49 C s (n + 1) 23 z = x_nx q_k49 C s n ((x_ldi 24 3) C z) := x_to_at f49_23 C s n z
theorem f49_24 : x_fetch q_k49 24 = x_lda 25 0 := rfl
theorem t49_24 (C : xF) (s n : Nat) (z : xS) : x_to q_k49 C s (n + 1) 24 z = x_nx q_k49 C s n ((x_lda 25 0) C z) := x_to_at f49_24 C s n z
theorem f49_25 : x_fetch q_k49 25 = x_gf 28 5 7 := rfl
theorem t49_25 (C : xF) (s n : Nat) (z : xS) : x_to q_k49 C s (n + 1) 25 z = x_nx q_k49 C s n ((x_gf 28 5 7) C z) := x_to_at f49_25 C s n z
theorem f49_28 : x_fetch q_k49 28 = x_st (x_icge 60 31) := rfl
theorem t49_28 (C : xF) (s n : Nat) (z : xS) : x_to q_k49 C s (n + 1) 28 z = x_nx q_k49 C s n ((x_st (x_icge 60 31)) C z) := x_to_at f49_28 C s n z
theorem f49_31 : x_fetch q_k49 31 = x_lda 32 0 := rfl
theorem t49_31 (C : xF) (s n : Nat) (z : xS) : x_to q_k49 C s (n + 1) 31 z = x_nx q_k49 C s n ((x_lda 32 0) C z) := x_to_at f49_31 C s n z
theorem f49_32 : x_fetch q_k49 32 = x_gf 35 5 4 := rfl
theorem t49_32 (C : xF) (s n : Nat) (z : xS) : x_to q_k49 C s (n + 1) 32 z = x_nx q_k49 C s n ((x_gf 35 5 4) C z) := x_to_at f49_32 C s n z
theorem f49_35 : x_fetch q_k49 35 = x_lda 36 0 := rfl
theorem t49_35 (C : xF) (s n : Nat) (z : xS) : x_to q_k49 C s (n + 1) 35 z = x_nx q_k49 C s n ((x_lda 36 0) C z) := x_to_at f49_35 C s n z
theorem f49_36 : x_fetch q_k49 36 = x_gf 39 5 2 := rfl
theorem t49_36 (C : xF) (s n : Nat) (z : xS) : x_to q_k49 C s (n + 1) 36 z = x_nx q_k49 C s n ((x_gf 39 5 2) C z) := x_to_at f49_36 C s n z
theorem f49_39 : x_fetch q_k49 39 = x_ldi 40 3 := rfl
theorem t49_39 (C : xF) (s n : Nat) (z : xS) : x_to q_k49 C s (n + 1) 39 z = x_nx q_k49 C s n ((x_ldi 40 3) C z) := x_to_at f49_39 C s n z
theorem f49_40 : x_fetch q_k49 40 = x_ald 41 0 := rfl
theorem t49_40 (C : xF) (s n : Nat) (z : xS) : x_to q_k49 C s (n + 1) 40 z = x_nx q_k49 C s n ((x_ald 41 0) C z) := x_to_at f49_40 C s n z
theorem f49_41 : x_fetch q_k49 41 = x_ald 42 1 := rfl
theorem t49_41 (C : xF) (s n : Nat) (z : xS) : x_to q_k49 C s (n + 1) 41 z = x_nx q_k49 C s n ((x_ald 42 1) C z) := x_to_at f49_41 C s n z
theorem f49_42 : x_fetch q_k49 42 = x_st (x_ifne 47 45) := rfl
theorem t49_42 (C : xF) (s n : Nat) (z : xS) : x_to q_k49 C s (n + 1) 42 z = x_nx q_k49 C s n ((x_st (x_ifne 47 45)) C z) := x_to_at f49_42 C s n z
theorem f49_45 : x_fetch q_k49 45 = x_st (x_push 46 (.int (0))) := rfl
theorem t49_45 (C : xF) (s n : Nat) (z : xS) : x_to q_k49 C s (n + 1) 45 z = x_nx q_k49 C s n ((x_st (x_push 46 (.int (0)))) C z) := x_to_at f49_45 C s n z
theorem f49_46 : x_fetch q_k49 46 = x_ri (.boolean) := rfl
theorem t49_46 (C : xF) (s n : Nat) (z : xS) : x_to q_k49 C s (n + 1) 46 z = x_nx q_k49 C s n ((x_ri (.boolean)) C z) := x_to_at f49_46 C s n z
theorem f49_47 : x_fetch q_k49 47 = x_lda 48 0 := rfl
theorem t49_47 (C : xF) (s n : Nat) (z : xS) : x_to q_k49 C s (n + 1) 47 z = x_nx q_k49 C s n ((x_lda 48 0) C z) := x_to_at f49_47 C s n z
theorem f49_48 : x_fetch q_k49 48 = x_gf 51 5 1 := rfl
theorem t49_48 (C : xF) (s n : Nat) (z : xS) : x_to q_k49 C s (n + 1) 48 z = x_nx q_k49 C s n ((x_gf 51 5 1) C z) := x_to_at f49_48 C s n z
theorem f49_51 : x_fetch q_k49 51 = x_ldi 52 3 := rfl
theorem t49_51 (C : xF) (s n : Nat) (z : xS) : x_to q_k49 C s (n + 1) 51 z = x_nx q_k49 C s n ((x_ldi 52 3) C z) := x_to_at f49_51 C s n z
theorem f49_52 : x_fetch q_k49 52 = x_ald 53 0 := rfl
theorem t49_52 (C : xF) (s n : Nat) (z : xS) : x_to q_k49 C s (n + 1) 52 z = x_nx q_k49 C s n ((x_ald 53 0) C z) := x_to_at f49_52 C s n z
theorem f49_53 : x_fetch q_k49 53 = x_sti 54 3 := rfl
theorem t49_53 (C : xF) (s n : Nat) (z : xS) : x_to q_k49 C s (n + 1) 53 z = x_nx q_k49 C s n ((x_sti 54 3) C z) := x_to_at f49_53 C s n z
theorem f49_54 : x_fetch q_k49 54 = x_iinc 57 4 (1) := rfl
theorem t49_54 (C : xF) (s n : Nat) (z : xS) : x_to q_k49 C s (n + 1) 54 z = x_nx q_k49 C s n ((x_iinc 57 4 (1)) C z) := x_to_at f49_54 C s n z
theorem f49_57 : x_fetch q_k49 57 = x_st (x_goto 17) := rfl
theorem t49_57 (C : xF) (s n : Nat) (z : xS) : x_to q_k49 C s (n + 1) 57 z = x_nx q_k49 C s n ((x_st (x_goto 17)) C z) := x_to_at f49_57 C s n z
theorem f49_60 : x_fetch q_k49 60 = x_st (x_push 61 (.int (1))) := rfl
theorem t49_60 (C : xF) (s n : Nat) (z : xS) : x_to q_k49 C s (n + 1) 60 z = x_nx q_k49 C s n ((x_st (x_push 61 (.int (1)))) C z) := x_to_at f49_60 C s n z
theorem f49_61 : x_fetch q_k49 61 = x_ri (.boolean) := rfl
theorem t49_61 (C : xF) (s n : Nat) (z : xS) : x_to q_k49 C s (n + 1) 61 z = x_nx q_k49 C s n ((x_ri (.boolean)) C z) := x_to_at f49_61 C s n z
section GF
variable {w : Nat → xC} {N : Nat} {l wt : Int} {Sy Ee Ro Fi P : List Int}
theorem l49 (d : Nat) (hN : 53 ≤ N) (hg : w 16 = gO l wt) (hE : w 18 = cI 0 Ee) (e1 : Ee.length = 80) (hR : w 19 = cI 0 Ro) (e2 : Ro.length = 80) (hF : w 21 = cI 1 Fi) (e3 : Fi.length = 80) (l0_ : 0 ≤ l) (l1_ : l ≤ 80) (hPl : (P.length : Int) = l) (hEe : ∀ i, 0 ≤ i → i < l → gZ Ee i = i + (tm P i.toNat).length) (hr : ∀ i, 0 ≤ i → i < 80 → 0 ≤ gZ Ro i ∧ gZ Ro i < 80) (hf : ∀ i, gZ Fi i = 0 ∨ gZ Fi i = 1) (t : Int) (t0 : 0 ≤ t) (t1 : t ≤ 3) : ∀ (r : Nat) (k x : Int) (lv : xL), k + r = t → 0 ≤ k → 0 ≤ x → x ≤ 80 → Ts r (tk r (P.drop x.toNat)) → c1 lv → x_lk lv 0 = some (.ref 19) → x_lk lv 2 = some (.int (iZ t)) → x_lk lv 3 = some (.int (iZ x)) → x_lk lv 4 = some (.int (iZ k)) →
    Gx q_k49 d 17 (lv, [], hp w N) (some (.int (iZ (bZ ((apos P r x.toNat).all (fun q => decide (gZ Fi (gZ Ro (q : Int)) = 1)))))), hp w N) := by
  intro r
  induction r with
  | zero =>
    intro k x lv hk k0 x0 x9 Tx hc l0 l2 l3 l4
    refine Gx.fin 20 Cs.tt (fun C _ => ?_)
    have b1 : t ≤ k := by omega
    have e : (apos P 0 x.toNat).all (fun q => decide (gZ Fi (gZ Ro (q : Int)) = 1)) = true := rfl
    simp (disch := first | (refine c1_id ?_; assumption) | (refine c1_st rfl ?_; repeat (first | assumption | refine c1_st rfl ?_)) | omega) [nx_l, nx_r, nx_n, x_st, x_push, x_bin, x_div, x_un, x_dup, x_pop, x_dup2, x_goto, x_ifeq, x_ifne, x_iflt, x_ifge, x_ifgt, x_ifle, x_iceq, x_icne, x_iclt, x_icge, x_icgt, x_icle, x_ifnull, x_ifnonnull, x_ldi, x_lda, x_sti, x_sta, x_iinc, x_gf, x_pf, x_ald, x_ast, x_aln, x_len, x_cl_, x_cv, x_cs, x_rc, x_r0, x_isT, x_oi, x_rv, x_ri, x_ra, Value.category, t49_0, t49_1, t49_4, t49_5, t49_6, t49_9, t49_10, t49_11, t49_12, t49_13, t49_14, t49_15, t49_17, t49_19, t49_20, t49_23, t49_24, t49_25, t49_28, t49_31, t49_32, t49_35, t49_36, t49_39, t49_40, t49_41, t49_42, t49_45, t49_46, t49_47, t49_48, t49_51, t49_52, t49_53, t49_54, t49_57, t49_60, t49_61, lk_s, hp_get, hp_set, uH_at, uH_ne, uH_upd, uH_swap, iZ_add, iZ_sub, iZ_mul, iZ_neg, iZ_lt, iZ_le, iZ_eq, iZ_div, iZ_of, ix_Z, gZ_map, gZ_mapI, gZ_map', le_0, le_s, sZ_map, sZ_len, bZ_0, bZ_inj, bZ_t, bZ_f, nr_i, nr_0, nr_1, nr_b, ft_i, ft_b, ft_0, ft_1, zl_0, zl_1, l0, l2, l4, b1, e, -List.filter_filter, -List.getElem?_map, -List.getD_eq_getElem?_getD]
  | succ r ih =>
    intro k x lv hk k0 x0 x9 Tx hc l0 l2 l3 l4
    have xl : x.toNat < P.length := by
      refine Nat.lt_of_not_le (fun hle => ?_)
      rw [List.drop_eq_nil_of_le hle] at Tx
      exact Ts_ne (n := r) Tx (by cases r <;> rfl)
    have hTx := Tx
    rw [Nat.add_comm] at Tx
    obtain ⟨x1, x2, x3⟩ := tk_cut Tx
    rw [List.drop_drop] at x2
    have ex : (x + ((tm P x.toNat).length : Int)).toNat = x.toNat + (tk 1 (P.drop x.toNat)).length := by
      show _ = x.toNat + (tm P x.toNat).length
      omega
    rw [← ex] at x2
    have hfit := tm_fit (P := P) x0 (by omega)
    have hrx := hr x x0 (by omega)
    have eEe := hEe x x0 (by omega)
    have b1 : ¬ t ≤ k := by omega
    have b2 : ¬ l ≤ x := by omega
    have exx : ((x.toNat : Nat) : Int) = x := by omega
    rcases hf (gZ Ro x) with h | h
    · have e : (apos P (r + 1) x.toNat).all (fun q => decide (gZ Fi (gZ Ro (q : Int)) = 1)) = false := by
        show (decide (gZ Fi (gZ Ro ((x.toNat : Nat) : Int)) = 1) && _) = false
        rw [exx, h]
        rfl
      rw [e]
      refine Gx.fin 40 Cs.tt (fun C _ => ?_)
      simp (disch := first | (refine c1_id ?_; assumption) | (refine c1_st rfl ?_; repeat (first | assumption | refine c1_st rfl ?_)) | omega) [nx_l, nx_r, nx_n, x_st, x_push, x_bin, x_div, x_un, x_dup, x_pop, x_dup2, x_goto, x_ifeq, x_ifne, x_iflt, x_ifge, x_ifgt, x_ifle, x_iceq, x_icne, x_iclt, x_icge, x_icgt, x_icle, x_ifnull, x_ifnonnull, x_ldi, x_lda, x_sti, x_sta, x_iinc, x_gf, x_pf, x_ald, x_ast, x_aln, x_len, x_cl_, x_cv, x_cs, x_rc, x_r0, x_isT, x_oi, x_rv, x_ri, x_ra, Value.category, t49_0, t49_1, t49_4, t49_5, t49_6, t49_9, t49_10, t49_11, t49_12, t49_13, t49_14, t49_15, t49_17, t49_19, t49_20, t49_23, t49_24, t49_25, t49_28, t49_31, t49_32, t49_35, t49_36, t49_39, t49_40, t49_41, t49_42, t49_45, t49_46, t49_47, t49_48, t49_51, t49_52, t49_53, t49_54, t49_57, t49_60, t49_61, lk_s, hp_get, hp_set, uH_at, uH_ne, uH_upd, uH_swap, iZ_add, iZ_sub, iZ_mul, iZ_neg, iZ_lt, iZ_le, iZ_eq, iZ_div, iZ_of, ix_Z, gZ_map, gZ_mapI, gZ_map', le_0, le_s, sZ_map, sZ_len, bZ_0, bZ_inj, bZ_t, bZ_f, nr_i, nr_0, nr_1, nr_b, ft_i, ft_b, ft_0, ft_1, zl_0, zl_1, l0, l2, l3, l4, hg, hR, hF, b1, b2, h, gF_len, gg_0, gg_1, gg_2, gg_3, gg_4, gg_5, gg_6, gg_7, gg_8, -List.filter_filter, -List.getElem?_map, -List.getD_eq_getElem?_getD]
    · have e : (apos P (r + 1) x.toNat).all (fun q => decide (gZ Fi (gZ Ro (q : Int)) = 1)) = (apos P r (x + ((tm P x.toNat).length : Int)).toNat).all (fun q => decide (gZ Fi (gZ Ro (q : Int)) = 1)) := by
        show (decide (gZ Fi (gZ Ro ((x.toNat : Nat) : Int)) = 1) && (apos P r (x.toNat + (tm P x.toNat).length)).all _) = _
        rw [exx, h, ex]
        rfl
      rw [e]
      have C1 := c1_st (i := 3) (v := .int (iZ (x + (tm P x.toNat).length))) rfl hc
      have C2 := c1_st (i := 4) (v := .int (iZ (k + 1))) rfl C1
      have k3 := ih (k + 1) (x + (tm P x.toNat).length) _ (by omega) (by omega) (by omega) (by omega) x2 C2 (by rw [lk_s C1, lk_s hc]; exact l0) (by rw [lk_s C1, lk_s hc]; exact l2) (by rw [lk_s C1, lk_s hc]; rfl) (by rw [lk_s C1]; rfl)
      refine Gx.run 60 Cs.tt (fun C _ => ?_) k3
      simp (disch := first | (refine c1_id ?_; assumption) | (refine c1_st rfl ?_; repeat (first | assumption | refine c1_st rfl ?_)) | omega) [nx_l, nx_r, nx_n, x_st, x_push, x_bin, x_div, x_un, x_dup, x_pop, x_dup2, x_goto, x_ifeq, x_ifne, x_iflt, x_ifge, x_ifgt, x_ifle, x_iceq, x_icne, x_iclt, x_icge, x_icgt, x_icle, x_ifnull, x_ifnonnull, x_ldi, x_lda, x_sti, x_sta, x_iinc, x_gf, x_pf, x_ald, x_ast, x_aln, x_len, x_cl_, x_cv, x_cs, x_rc, x_r0, x_isT, x_oi, x_rv, x_ri, x_ra, Value.category, t49_0, t49_1, t49_4, t49_5, t49_6, t49_9, t49_10, t49_11, t49_12, t49_13, t49_14, t49_15, t49_17, t49_19, t49_20, t49_23, t49_24, t49_25, t49_28, t49_31, t49_32, t49_35, t49_36, t49_39, t49_40, t49_41, t49_42, t49_45, t49_46, t49_47, t49_48, t49_51, t49_52, t49_53, t49_54, t49_57, t49_60, t49_61, lk_s, hp_get, hp_set, uH_at, uH_ne, uH_upd, uH_swap, iZ_add, iZ_sub, iZ_mul, iZ_neg, iZ_lt, iZ_le, iZ_eq, iZ_div, iZ_of, ix_Z, gZ_map, gZ_mapI, gZ_map', le_0, le_s, sZ_map, sZ_len, bZ_0, bZ_inj, bZ_t, bZ_f, nr_i, nr_0, nr_1, nr_b, ft_i, ft_b, ft_0, ft_1, zl_0, zl_1, l0, l2, l3, l4, hg, hR, hF, hE, eEe, b1, b2, h, gF_len, gg_0, gg_1, gg_2, gg_3, gg_4, gg_5, gg_6, gg_7, gg_8, -List.filter_filter, -List.getElem?_map, -List.getD_eq_getElem?_getD]
theorem m49 (d : Nat) (hN : 53 ≤ N) (hV : GV P Sy l) (hSy : w 17 = cI 0 Sy) (hg : w 16 = gO l wt) (hE : w 18 = cI 0 Ee) (e1 : Ee.length = 80) (hR : w 19 = cI 0 Ro) (e2 : Ro.length = 80) (hF : w 21 = cI 1 Fi) (e3 : Fi.length = 80) (hEe : ∀ i, 0 ≤ i → i < l → gZ Ee i = i + (tm P i.toNat).length) (hr : ∀ i, 0 ≤ i → i < 80 → 0 ≤ gZ Ro i ∧ gZ Ro i < 80) (hf : ∀ i, gZ Fi i = 0 ∨ gZ Fi i = 1) (a : Nat) (ha : a < P.length) :
    Xc (d + 2) 49 [.ref 19, .int (iZ a)] (hp w N) (some (.int (iZ (bZ ((args P a).all (fun q => decide (gZ Fi (gZ Ro (q : Int)) = 1)))))), hp w N) := by
  obtain ⟨v1, v2, v3, v4, v5, v6⟩ := hV
  obtain ⟨z1, z2, z3⟩ := v4 a ha
  have z4 := vs_lo z1
  have z5 := vs_hi z1
  have har := ar_le (pz P a)
  have hTa : Ts (ar (pz P a)) (tk (ar (pz P a)) (P.drop (a + 1))) := by
    have := v6 a ha
    rw [tm_eq ha] at this
    have h9 : Ts (0 + ar (pz P a)) (tk (ar (pz P a)) (P.drop (a + 1))) := this
    rw [Nat.zero_add] at h9
    exact h9
  have mm := m5 d w N (gZ Sy a) z4 (by omega)
  rw [← z2] at mm
  refine Xc.of rfl (by simp [lg_sl, Value.category]) ?_ (x_le.rf)
  have hc : c1 (lv_args 0 [.ref 19, .int (iZ a)]) := by simp [c1, lv_args, Value.category]
  have l0 : x_lk (lv_args 0 [.ref 19, .int (iZ a)]) 0 = some (.ref 19) := rfl
  have l1 : x_lk (lv_args 0 [.ref 19, .int (iZ a)]) 1 = some (.int (iZ a)) := rfl
  generalize lv_args 0 [.ref 19, .int (iZ a)] = lv at hc l0 l1
  have C1 := c1_st (i := 2) (v := .int (iZ (ar (pz P a) : Int))) rfl hc
  have C2 := c1_st (i := 3) (v := .int (iZ ((a : Int) + 1))) rfl C1
  have C3 := c1_st (i := 4) (v := .int (iZ 0)) rfl C2
  have k3 := l49 (d + 1) hN hg hE e1 hR e2 hF e3 (by omega) v2 v1 hEe hr hf (ar (pz P a) : Int) (by omega) (by omega) (ar (pz P a)) 0 ((a : Int) + 1) _ (by omega) (by omega) (by omega) (by omega) (by rw [show ((a : Int) + 1).toNat = a + 1 by omega]; exact hTa) C3 (by rw [lk_s C2, lk_s C1, lk_s hc]; exact l0) (by rw [lk_s C2, lk_s C1, lk_s hc]; rfl) (by rw [lk_s C2, lk_s C1]; rfl) (by rw [lk_s C2]; rfl)
  rw [show ((a : Int) + 1).toNat = a + 1 by omega] at k3
  refine Gx.run 40 mm (fun C mm => ?_) k3
  simp (disch := first | (refine c1_id ?_; assumption) | (refine c1_st rfl ?_; repeat (first | assumption | refine c1_st rfl ?_)) | omega) [nx_l, nx_r, nx_n, x_st, x_push, x_bin, x_div, x_un, x_dup, x_pop, x_dup2, x_goto, x_ifeq, x_ifne, x_iflt, x_ifge, x_ifgt, x_ifle, x_iceq, x_icne, x_iclt, x_icge, x_icgt, x_icle, x_ifnull, x_ifnonnull, x_ldi, x_lda, x_sti, x_sta, x_iinc, x_gf, x_pf, x_ald, x_ast, x_aln, x_len, x_cl_, x_cv, x_cs, x_rc, x_r0, x_isT, x_oi, x_rv, x_ri, x_ra, Value.category, t49_0, t49_1, t49_4, t49_5, t49_6, t49_9, t49_10, t49_11, t49_12, t49_13, t49_14, t49_15, t49_17, t49_19, t49_20, t49_23, t49_24, t49_25, t49_28, t49_31, t49_32, t49_35, t49_36, t49_39, t49_40, t49_41, t49_42, t49_45, t49_46, t49_47, t49_48, t49_51, t49_52, t49_53, t49_54, t49_57, t49_60, t49_61, lk_s, hp_get, hp_set, uH_at, uH_ne, uH_upd, uH_swap, iZ_add, iZ_sub, iZ_mul, iZ_neg, iZ_lt, iZ_le, iZ_eq, iZ_div, iZ_of, ix_Z, gZ_map, gZ_mapI, gZ_map', le_0, le_s, sZ_map, sZ_len, bZ_0, bZ_inj, bZ_t, bZ_f, nr_i, nr_0, nr_1, nr_b, ft_i, ft_b, ft_0, ft_1, zl_0, zl_1, l0, l1, hg, hSy, mm, gF_len, gg_0, gg_1, gg_2, gg_3, gg_4, gg_5, gg_6, gg_7, gg_8, -List.filter_filter, -List.getElem?_map, -List.getD_eq_getElem?_getD]
end GF
/-- tops stay tops when pointers are shortened -/
theorem fdn_short {n : Nat} {R R' dm : Nat → Nat} {k : Nat} (hk : n ≤ k) (h1 : ∀ i, i < n → R i < n) (h2 : ∀ i, i < n → R i ≠ i → dm (R i) < dm i) (h : ∀ i, i < n → R' i = R i ∨ R' i = fdn R k i) : ∀ j, j < n → fdn R' k j = fdn R k j := by
  have hle : ∀ m i, i < n → dm (fdn R m i) ≤ dm i := by
    intro m
    induction m with
    | zero => intro i _; exact Nat.le_refl _
    | succ m ih =>
      intro i hi
      unfold fdn
      split
      · exact Nat.le_refl _
      · next e =>
        have := ih (R i) (h1 i hi)
        have := h2 i hi e
        omega
  have g1 : ∀ i, i < n → R' i < n := fun i hi => by
    rcases h i hi with e | e
    · rw [e]
      exact h1 i hi
    · rw [e]
      exact fdn_lt h1 k i hi
  have g2 : ∀ i, i < n → R' i ≠ i → dm (R' i) < dm i := fun i hi hn => by
    rcases h i hi with e | e
    · rw [e] at hn ⊢
      exact h2 i hi hn
    · by_cases er : R i = i
      · rw [e, fdn_root er] at hn
        exact absurd rfl hn
      · have e5 := fdn_R h1 h2 hk hi
        have := hle k (R i) (h1 i hi)
        have := h2 i hi er
        rw [e, ← e5]
        omega
  intro j hj
  have e1 : fdn R k (fdn R' k j) = fdn R k j := by
    have := fdn_all (n := n) (R := R') (φ := fun i => fdn R k i) (a := fdn R' k j) g1 (fun i hi _ => by
      show fdn R k (R' i) = fdn R k i
      rcases h i hi with e | e
      · rw [e]
        exact fdn_R h1 h2 hk hi
      · rw [e]
        exact fdn_root (fdn_is h1 h2 hk hi) k) (fdn_is g1 g2 hk hj) k j hj
    exact this
  have hlt := fdn_lt g1 k j hj
  have hroot := fdn_is g1 g2 hk hj
  have e2 : fdn R k (fdn R' k j) = fdn R' k j := by
    rcases h _ hlt with e | e
    · rw [hroot] at e
      exact fdn_root e.symm k
    · rw [hroot] at e
      exact e.symm
  rw [← e2, e1]
