/-! the class: the graph's ends; the graph is ready -/
theorem f42_0 : x_fetch q_k42 0 = x_lda 1 0 := rfl
theorem t42_0 (C : xF) (s n : Nat) (z : xS) : x_to q_k42 C s (n + 1) 0 z = x_nx q_k42 C s n ((x_lda 1 0) C z) := x_to_at f42_0 C s n z
theorem f42_1 : x_fetch q_k42 1 = x_gf 4 5 7 := rfl
theorem t42_1 (C : xF) (s n : Nat) (z : xS) : x_to q_k42 C s (n + 1) 1 z = x_nx q_k42 C s n ((x_gf 4 5 7) C z) := x_to_at f42_1 C s n z
theorem f42_4 : x_fetch q_k42 4 = x_st (x_push 5 (.int (1))) := rfl
theorem t42_4 (C : xF) (s n : Nat) (z : xS) : x_to q_k42 C s (n + 1) 4 z = x_nx q_k42 C s n ((x_st (x_push 5 (.int (1)))) C z) := x_to_at f42_4 C s n z
theorem f42_5 : x_fetch q_k42 5 = x_st (x_bin 6 (fun a b => a - b)) := rfl
theorem t42_5 (C : xF) (s n : Nat) (z : xS) : x_to q_k42 C s (n + 1) 5 z = x_nx q_k42 C s n ((x_st (x_bin 6 (fun a b => a - b))) C z) := x_to_at f42_5 C s n z
theorem f42_6 : x_fetch q_k42 6 = x_sti 7 1 := rfl
theorem t42_6 (C : xF) (s n : Nat) (z : xS) : x_to q_k42 C s (n + 1) 6 z = x_nx q_k42 C s n ((x_sti 7 1) C z) := x_to_at f42_6 C s n z
theorem f42_7 : x_fetch q_k42 7 = x_ldi 8 1 := rfl
theorem t42_7 (C : xF) (s n : Nat) (z : xS) : x_to q_k42 C s (n + 1) 7 z = x_nx q_k42 C s n ((x_ldi 8 1) C z) := x_to_at f42_7 C s n z
theorem f42_8 : x_fetch q_k42 8 = x_st (x_iflt 68 11) := rfl
theorem t42_8 (C : xF) (s n : Nat) (z : xS) : x_to q_k42 C s (n + 1) 8 z = x_nx q_k42 C s n ((x_st (x_iflt 68 11)) C z) := x_to_at f42_8 C s n z
theorem f42_11 : x_fetch q_k42 11 = x_ldi 12 1 := rfl
theorem t42_11 (C : xF) (s n : Nat) (z : xS) : x_to q_k42 C s (n + 1) 11 z = x_nx q_k42 C s n ((x_ldi 12 1) C z) := x_to_at f42_11 C s n z
theorem f42_12 : x_fetch q_k42 12 = x_st (x_push 13 (.int (1))) := rfl
theorem t42_12 (C : xF) (s n : Nat) (z : xS) : x_to q_k42 C s (n + 1) 12 z = x_nx q_k42 C s n ((x_st (x_push 13 (.int (1)))) C z) := x_to_at f42_12 C s n z
theorem f42_13 : x_fetch q_k42 13 = x_st (x_bin 14 (fun a b => a + b)) := rfl
theorem t42_13 (C : xF) (s n : Nat) (z : xS) : x_to q_k42 C s (n + 1) 13 z = x_nx q_k42 C s n ((x_st (x_bin 14 (fun a b => a + b))) C z) := x_to_at f42_13 C s n z
theorem f42_14 : x_fetch q_k42 14 = x_sti 15 2 := rfl
theorem t42_14 (C : xF) (s n : Nat) (z : xS) : x_to q_k42 C s (n + 1) 14 z = x_nx q_k42 C s n ((x_sti 15 2) C z) := x_to_at f42_14 C s n z
theorem f42_15 : x_fetch q_k42 15 = x_lda 16 0 := rfl
theorem t42_15 (C : xF) (s n : Nat) (z : xS) : x_to q_k42 C s (n + 1) 15 z = x_nx q_k42 C s n ((x_lda 16 0) C z) := x_to_at f42_15 C s n z
theorem f42_16 : x_fetch q_k42 16 = x_gf 19 5 0 := rfl
theorem t42_16 (C : xF) (s n : Nat) (z : xS) : x_to q_k42 C s (n + 1) 16 z = x_nx q_k42 C s n ((x_gf 19 5 0) C z) := x_to_at f42_16 C s n z
theorem f42_19 : x_fetch q_k42 19 = x_ldi 20 1 := rfl
theorem t42_19 (C : xF) (s n : Nat) (z : xS) : x_to q_k42 C s (n + 1) 19 z = x_nx q_k42 C s n ((x_ldi 20 1) C z) := x_to_at f42_19 C s n z
theorem f42_20 : x_fetch q_k42 20 = x_ald 21 0 := rfl
theorem t42_20 (C : xF) (s n : Nat) (z : xS) : x_to q_k42 C s (n + 1) 20 z = x_nx q_k42 C s n ((x_ald 21 0) C z) := x_to_at f42_20 C s n z
theorem f42_21 : x_fetch q_k42 21 = x_cl_ 24 5 1 := rfl
theorem t42_21 (C : xF) (s n : Nat) (z : xS) : x_to q_k42 C s (n + 1) 21 z = x_nx q_k42 C s n ((x_cl_ 24 5 1) C z) := x_to_at f42_21 C s n z
theorem f42_24 : x_fetch q_k42 24 = x_sti 25 3 := rfl
theorem t42_24 (C : xF) (s n : Nat) (z : xS) : x_to q_k42 C s (n + 1) 24 z = x_nx q_k42 C s n ((x_sti 25 3) C z) := x_to_at f42_24 C s n z
theorem f42_25 : x_fetch q_k42 25 = x_st (x_push 26 (.int (0))) := rfl
theorem t42_25 (C : xF) (s n : Nat) (z : xS) : x_to q_k42 C s (n + 1) 25 z = x_nx q_k42 C s n ((x_st (x_push 26 (.int (0)))) C z) := x_to_at f42_25 C s n z
theorem f42_26 : x_fetch q_k42 26 = x_sti 28 4 := rfl
theorem t42_26 (C : xF) (s n : Nat) (z : xS) : x_to q_k42 C s (n + 1) 26 z = x_nx q_k42 C s n ((x_sti 28 4) C z) := x_to_at f42_26 C s n z
theorem f42_28 : x_fetch q_k42 28 = x_ldi 30 4 := rfl
theorem t42_28 (C : xF) (s n : Nat) (z : xS) : x_to q_k42 C s (n + 1) 28 z = x_nx q_k42 C s n ((x_ldi 30 4) C z) := x_to_at f42_28 C s n z
theorem f42_30 : x_fetch q_k42 30 = x_ldi 31 3 := rfl
theorem t42_30 (C : xF) (s n : Nat) (z : xS) : x_to q_k42 C s (n + 1) 30 z = x_nx q_k42 C s n ((x_ldi 31 3) C z) := x_to_at f42_30 C s n z
theorem f42_31 : x_fetch q_k42 31 = x_st (x_icge 55 34) := rfl
theorem t42_31 (C : xF) (s n : Nat) (z : xS) : x_to q_k42 C s (n + 1) 31 z = x_nx q_k42 C s n ((x_st (x_icge 55 34)) C z) := x_to_at f42_31 C s n z
theorem f42_34 : x_fetch q_k42 34 = x_ldi 35 2 := rfl
theorem t42_34 (C : xF) (s n : Nat) (z : xS) : x_to q_k42 C s (n + 1) 34 z = x_nx q_k42 C s n ((x_ldi 35 2) C z) := x_to_at f42_34 C s n z
theorem f42_35 : x_fetch q_k42 35 = x_lda 36 0 := rfl
theorem t42_35 (C : xF) (s n : Nat) (z : xS) : x_to q_k42 C s (n + 1) 35 z = x_nx q_k42 C s n ((x_lda 36 0) C z) := x_to_at f42_35 C s n z
theorem f42_36 : x_fetch q_k42 36 = x_gf 39 5 7 := rfl
theorem t42_36 (C : xF) (s n : Nat) (z : xS) : x_to q_k42 C s (n + 1) 36 z = x_nx q_k42 C s n ((x_gf 39 5 7) C z) := x_to_at f42_36 C s n z
theorem f42_39 : x_fetch q_k42 39 = x_st (x_icge 55 42) := rfl
theorem t42_39 (C : xF) (s n : Nat) (z : xS) : x_to q_k42 C s (n + 1) 39 z = x_nx q_k42 C s n ((x_st (x_icge 55 42)) C z) := x_to_at f42_39 C s n z
theorem f42_42 : x_fetch q_k42 42 = x_lda 43 0 := rfl
theorem t42_42 (C : xF) (s n : Nat) (z : xS) : x_to q_k42 C s (n + 1) 42 z = x_nx q_k42 C s n ((x_lda 43 0) C z) := x_to_at f42_42 C s n z
theorem f42_43 : x_fetch q_k42 43 = x_gf 46 5 1 := rfl
theorem t42_43 (C : xF) (s n : Nat) (z : xS) : x_to q_k42 C s (n + 1) 43 z = x_nx q_k42 C s n ((x_gf 46 5 1) C z) := x_to_at f42_43 C s n z
theorem f42_46 : x_fetch q_k42 46 = x_ldi 47 2 := rfl
theorem t42_46 (C : xF) (s n : Nat) (z : xS) : x_to q_k42 C s (n + 1) 46 z = x_nx q_k42 C s n ((x_ldi 47 2) C z) := x_to_at f42_46 C s n z
theorem f42_47 : x_fetch q_k42 47 = x_ald 48 0 := rfl
theorem t42_47 (C : xF) (s n : Nat) (z : xS) : x_to q_k42 C s (n + 1) 47 z = x_nx q_k42 C s n ((x_ald 48 0) C z) := x_to_at f42_47 C s n z
theorem f42_48 : x_fetch q_k42 48 = x_sti 49 2 := rfl
theorem t42_48 (C : xF) (s n : Nat) (z : xS) : x_to q_k42 C s (n + 1) 48 z = x_nx q_k42 C s n ((x_sti 49 2) C z) := x_to_at f42_48 C s n z
theorem f42_49 : x_fetch q_k42 49 = x_iinc 52 4 (1) := rfl
theorem t42_49 (C : xF) (s n : Nat) (z : xS) : x_to q_k42 C s (n + 1) 49 z = x_nx q_k42 C s n ((x_iinc 52 4 (1)) C z) := x_to_at f42_49 C s n z
theorem f42_52 : x_fetch q_k42 52 = x_st (x_goto 28) := rfl
theorem t42_52 (C : xF) (s n : Nat) (z : xS) : x_to q_k42 C s (n + 1) 52 z = x_nx q_k42 C s n ((x_st (x_goto 28)) C z) := x_to_at f42_52 C s n z
theorem f42_55 : x_fetch q_k42 55 = x_lda 56 0 := rfl
theorem t42_55 (C : xF) (s n : Nat) (z : xS) : x_to q_k42 C s (n + 1) 55 z = x_nx q_k42 C s n ((x_lda 56 0) C z) := x_to_at f42_55 C s n z
theorem f42_56 : x_fetch q_k42 56 = x_gf 59 5 1 := rfl
theorem t42_56 (C : xF) (s n : Nat) (z : xS) : x_to q_k42 C s (n + 1) 56 z = x_nx q_k42 C s n ((x_gf 59 5 1) C z) := x_to_at f42_56 C s n z
theorem f42_59 : x_fetch q_k42 59 = x_ldi 60 1 := rfl
theorem t42_59 (C : xF) (s n : Nat) (z : xS) : x_to q_k42 C s (n + 1) 59 z = x_nx q_k42 C s n ((x_ldi 60 1) C z) := x_to_at f42_59 C s n z
theorem f42_60 : x_fetch q_k42 60 = x_ldi 61 2 := rfl
theorem t42_60 (C : xF) (s n : Nat) (z : xS) : x_to q_k42 C s (n + 1) 60 z = x_nx q_k42 C s n ((x_ldi 61 2) C z) := x_to_at f42_60 C s n z
theorem f42_61 : x_fetch q_k42 61 = x_ast 62 0 (fun x => x) := rfl
theorem t42_61 (C : xF) (s n : Nat) (z : xS) : x_to q_k42 C s (n + 1) 61 z = x_nx q_k42 C s n ((x_ast 62 0 (fun x => x)) C z) := x_to_at f42_61 C s n z
theorem f42_62 : x_fetch q_k42 62 = x_iinc 65 1 (-1) := rfl
theorem t42_62 (C : xF) (s n : Nat) (z : xS) : x_to q_k42 C s (n + 1) 62 z = x_nx q_k42 C s n ((x_iinc 65 1 (-1)) C z) := x_to_at f42_62 C s n z
theorem f42_65 : x_fetch q_k42 65 = x_st (x_goto 7) := rfl
theorem t42_65 (C : xF) (s n : Nat) (z : xS) : x_to q_k42 C s (n + 1) 65 z = x_nx q_k42 C s n ((x_st (x_goto 7)) C z) := x_to_at f42_65 C s n z
theorem f42_68 : x_fetch q_k42 68 = x_rv := rfl
theorem t42_68 (C : xF) (s n : Nat) (z : xS) : x_to q_k42 C s (n + 1) 68 z = x_nx q_k42 C s n ((x_rv) C z) := x_to_at f42_68 C s n z
section CZ
variable {N : Nat} {l wt : Int} {P Sy : List Int} {w : Nat → xC}
theorem l42i (d : Nat) (hN : 53 ≤ N) (hg : w 16 = gO l wt) (hPl : (P.length : Int) = l) (l80 : l ≤ 80) {Ee : List Int} (hE : w 18 = cI 0 Ee) (e1 : Ee.length = 80) (at_ : Nat) (hEe : ∀ i : Nat, at_ < i → i < P.length → gZ Ee i = ((i + (tm P i).length : Nat) : Int)) : ∀ (r next : Nat) (tr : Int) (lv : xL), Ts r (tk r (P.drop next)) → at_ < next → next ≤ P.length → r ≤ 3 → tr ≤ 3 → c1 lv → x_lk lv 0 = some (.ref 19) → x_lk lv 2 = some (.int (iZ (next : Int))) → x_lk lv 3 = some (.int (iZ tr)) → x_lk lv 4 = some (.int (iZ (tr - r))) → 0 ≤ tr - r → ∃ lv', c1 lv' ∧ (∀ j, j ≠ 2 → j ≠ 4 → x_lk lv' j = x_lk lv j) ∧ x_lk lv' 2 = some (.int (iZ ((next + (tk r (P.drop next)).length : Nat) : Int))) ∧ ∀ res, Gx q_k42 d 55 (lv', [], hp w N) res → Gx q_k42 d 28 (lv, [], hp w N) res := by
  intro r
  induction r with
  | zero =>
    intro next tr lv hT ha hn r3 t3 hc l0 l2 l3 l4 t0
    refine ⟨lv, hc, fun _ _ _ => rfl, by rw [tk_0]; exact l2, fun res hres => Gx.run 20 Cs.tt (fun X _ => ?_) hres⟩
    have e : tr - ((0 : Nat) : Int) = tr := by omega
    rw [e] at l4
    have t1 : 0 ≤ tr := by omega
    have b1 : tr ≤ tr := by omega
    simp (disch := first | (refine c1_id ?_; assumption) | (refine c1_st rfl ?_; repeat (first | assumption | refine c1_st rfl ?_)) | omega) [nx_l, nx_r, nx_n, x_st, x_push, x_bin, x_div, x_un, x_dup, x_pop, x_dup2, x_goto, x_ifeq, x_ifne, x_iflt, x_ifge, x_ifgt, x_ifle, x_iceq, x_icne, x_iclt, x_icge, x_icgt, x_icle, x_ifnull, x_ifnonnull, x_ldi, x_lda, x_sti, x_sta, x_iinc, x_gf, x_pf, x_ald, x_ast, x_aln, x_len, x_cl_, x_cv, x_cs, x_rc, x_r0, x_isT, x_oi, x_rv, x_ri, x_ra, Value.category, t42_0, t42_1, t42_4, t42_5, t42_6, t42_7, t42_8, t42_11, t42_12, t42_13, t42_14, t42_15, t42_16, t42_19, t42_20, t42_21, t42_24, t42_25, t42_26, t42_28, t42_30, t42_31, t42_34, t42_35, t42_36, t42_39, t42_42, t42_43, t42_46, t42_47, t42_48, t42_49, t42_52, t42_55, t42_56, t42_59, t42_60, t42_61, t42_62, t42_65, t42_68, lk_s, hp_get, hp_set, uH_at, uH_ne, uH_upd, uH_swap, iZ_add, iZ_sub, iZ_mul, iZ_neg, iZ_lt, iZ_le, iZ_eq, iZ_div, iZ_of, ix_Z, gZ_map, gZ_mapI, gZ_map', le_0, le_s, sZ_map, sZ_len, bZ_0, bZ_inj, bZ_t, bZ_f, nr_i, nr_0, nr_1, nr_b, ft_i, ft_b, ft_0, ft_1, zl_0, zl_1, l0, l3, l4, b1, -List.filter_filter, -List.getElem?_map, -List.getD_eq_getElem?_getD]
  | succ r ih =>
    intro next tr lv hT ha hn r3 t3 hc l0 l2 l3 l4 t0
    have hcut := tk_cut (n := 1) (m := r) (l := P.drop next) (by rw [Nat.add_comm 1 r]; exact hT)
    rw [List.drop_drop, Nat.add_comm 1 r] at hcut
    have hnl : next < P.length := by
      have h1 := Ts_len hT
      obtain ⟨b, hb⟩ := tk_pre (P.drop next) (r + 1)
      have h2 := congrArg List.length hb
      rw [List.length_append, List.length_drop] at h2
      omega
    have hen := hEe next ha hnl
    have htl := tm_len_le (P := P) (i := next) (by omega)
    have htm : tm P next = tk 1 (P.drop next) := rfl
    obtain ⟨nx, hnx⟩ : ∃ nx, nx = next + (tm P next).length := ⟨_, rfl⟩
    rw [← htm, ← hnx] at hcut
    rw [← hnx] at hen htl
    have hpos := Ts_len hcut.1
    obtain ⟨q, hq⟩ : ∃ q : Int, q = (next : Int) := ⟨_, rfl⟩
    obtain ⟨k, hk⟩ : ∃ k : Int, k = tr - ((r + 1 : Nat) : Int) := ⟨_, rfl⟩
    rw [← hq] at hen l2
    rw [← hk] at l4 t0
    have b1 : ¬ tr ≤ k := by omega
    have b2 : ¬ l ≤ q := by omega
    have b3 : k ≤ 3 := by omega
    have b4 : 0 ≤ q := by omega
    have b5 : q < 80 := by omega
    have C2 := c1_st (i := 2) (v := .int (iZ (nx : Int))) rfl hc
    have C4 := c1_st (i := 4) (v := .int (iZ (k + 1))) rfl C2
    obtain ⟨lv', i1, i2, i3, i4⟩ := ih nx tr _ hcut.2.1 (by omega) htl (by omega) t3 C4 (by rw [lk_s C2, lk_s hc]; exact l0) (by rw [lk_s C2, lk_s hc]; rfl) (by rw [lk_s C2, lk_s hc]; exact l3) (by rw [lk_s C2]; show some (Value.int (iZ (k + 1))) = _; rw [show k + 1 = tr - (r : Int) by omega]) (by omega)
    refine ⟨lv', i1, fun j h2 h4 => ?_, ?_, fun res hres => Gx.run 40 Cs.tt (fun X _ => ?_) (i4 res hres)⟩
    · rw [i2 j h2 h4, lk_s C2, if_neg (Ne.symm h4), lk_s hc, if_neg (Ne.symm h2)]
    · rw [i3, hcut.2.2, List.length_append, hnx, Nat.add_assoc]
    · simp (disch := first | (refine c1_id ?_; assumption) | (refine c1_st rfl ?_; repeat (first | assumption | refine c1_st rfl ?_)) | omega) [nx_l, nx_r, nx_n, x_st, x_push, x_bin, x_div, x_un, x_dup, x_pop, x_dup2, x_goto, x_ifeq, x_ifne, x_iflt, x_ifge, x_ifgt, x_ifle, x_iceq, x_icne, x_iclt, x_icge, x_icgt, x_icle, x_ifnull, x_ifnonnull, x_ldi, x_lda, x_sti, x_sta, x_iinc, x_gf, x_pf, x_ald, x_ast, x_aln, x_len, x_cl_, x_cv, x_cs, x_rc, x_r0, x_isT, x_oi, x_rv, x_ri, x_ra, Value.category, t42_0, t42_1, t42_4, t42_5, t42_6, t42_7, t42_8, t42_11, t42_12, t42_13, t42_14, t42_15, t42_16, t42_19, t42_20, t42_21, t42_24, t42_25, t42_26, t42_28, t42_30, t42_31, t42_34, t42_35, t42_36, t42_39, t42_42, t42_43, t42_46, t42_47, t42_48, t42_49, t42_52, t42_55, t42_56, t42_59, t42_60, t42_61, t42_62, t42_65, t42_68, lk_s, hp_get, hp_set, uH_at, uH_ne, uH_upd, uH_swap, iZ_add, iZ_sub, iZ_mul, iZ_neg, iZ_lt, iZ_le, iZ_eq, iZ_div, iZ_of, ix_Z, gZ_map, gZ_mapI, gZ_map', le_0, le_s, sZ_map, sZ_len, bZ_0, bZ_inj, bZ_t, bZ_f, nr_i, nr_0, nr_1, nr_b, ft_i, ft_b, ft_0, ft_1, zl_0, zl_1, l0, l2, l3, l4, hg, hE, hen, b1, b2, gO, gF, -List.filter_filter, -List.getElem?_map, -List.getD_eq_getElem?_getD]
theorem l42 (d : Nat) (hN : 53 ≤ N) (hV : GV P Sy l) (hg : w 16 = gO l wt) (hS : w 17 = cI 0 Sy) : ∀ (r : Nat) (Ee : List Int) (lv : xL), r ≤ P.length → Ee.length = 80 → (∀ i : Nat, r ≤ i → i < P.length → gZ Ee i = ((i + (tm P i).length : Nat) : Int)) → c1 lv → x_lk lv 0 = some (.ref 19) → x_lk lv 1 = some (.int (iZ ((r : Int) - 1))) → ∃ Ee' : List Int, Ee'.length = 80 ∧ (∀ i : Nat, i < P.length → gZ Ee' i = ((i + (tm P i).length : Nat) : Int)) ∧ Gx q_k42 (d + 1) 7 (lv, [], hp (uH w 18 (cI 0 Ee)) N) (none, hp (uH w 18 (cI 0 Ee')) N) := by
  obtain ⟨v1, v2, v3, v4, v5, v6⟩ := hV
  intro r
  induction r with
  | zero =>
    intro Ee lv hr nE hEe hc l0 l1
    refine ⟨Ee, nE, fun i hi => hEe i (Nat.zero_le _) hi, Gx.fin 20 Cs.tt (fun X _ => ?_)⟩
    have e : ((0 : Nat) : Int) - 1 = -1 := by omega
    rw [e] at l1
    simp (disch := first | (refine c1_id ?_; assumption) | (refine c1_st rfl ?_; repeat (first | assumption | refine c1_st rfl ?_)) | omega) [nx_l, nx_r, nx_n, x_st, x_push, x_bin, x_div, x_un, x_dup, x_pop, x_dup2, x_goto, x_ifeq, x_ifne, x_iflt, x_ifge, x_ifgt, x_ifle, x_iceq, x_icne, x_iclt, x_icge, x_icgt, x_icle, x_ifnull, x_ifnonnull, x_ldi, x_lda, x_sti, x_sta, x_iinc, x_gf, x_pf, x_ald, x_ast, x_aln, x_len, x_cl_, x_cv, x_cs, x_rc, x_r0, x_isT, x_oi, x_rv, x_ri, x_ra, Value.category, t42_0, t42_1, t42_4, t42_5, t42_6, t42_7, t42_8, t42_11, t42_12, t42_13, t42_14, t42_15, t42_16, t42_19, t42_20, t42_21, t42_24, t42_25, t42_26, t42_28, t42_30, t42_31, t42_34, t42_35, t42_36, t42_39, t42_42, t42_43, t42_46, t42_47, t42_48, t42_49, t42_52, t42_55, t42_56, t42_59, t42_60, t42_61, t42_62, t42_65, t42_68, lk_s, hp_get, hp_set, uH_at, uH_ne, uH_upd, uH_swap, iZ_add, iZ_sub, iZ_mul, iZ_neg, iZ_lt, iZ_le, iZ_eq, iZ_div, iZ_of, ix_Z, gZ_map, gZ_mapI, gZ_map', le_0, le_s, sZ_map, sZ_len, bZ_0, bZ_inj, bZ_t, bZ_f, nr_i, nr_0, nr_1, nr_b, ft_i, ft_b, ft_0, ft_1, zl_0, zl_1, l0, l1, -List.filter_filter, -List.getElem?_map, -List.getD_eq_getElem?_getD]
  | succ r ih =>
    intro Ee lv hr nE hEe hc l0 l1
    have hrP : r < P.length := by omega
    rw [show ((r + 1 : Nat) : Int) - 1 = (r : Int) by omega] at l1
    obtain ⟨z1, z2, z3⟩ := v4 r hrP
    have z4 := vs_lo z1
    have z5 := vs_hi z1
    obtain ⟨w1, hw1⟩ : ∃ w1, w1 = uH w 18 (cI 0 Ee) := ⟨_, rfl⟩
    rw [← hw1]
    have hg1 : w1 16 = gO l wt := by rw [hw1, uH_ne (by decide)]; exact hg
    have hS1 : w1 17 = cI 0 Sy := by rw [hw1, uH_ne (by decide)]; exact hS
    have hE1 : w1 18 = cI 0 Ee := by rw [hw1, uH_at]
    have har := ar_le (pz P r)
    have hT := v6 r hrP
    rw [tm_eq hrP] at hT
    obtain ⟨m, hm1, hm2⟩ := Ts_cons hT
    obtain rfl : m = 0 := by omega
    rw [Nat.zero_add] at hm2
    have X1 := m5 d w1 N (gZ Sy r) (by omega) (by omega)
    obtain ⟨tr, htr⟩ : ∃ tr : Int, tr = (ar (pz P r) : Int) := ⟨_, rfl⟩
    rw [← z2, ← htr] at X1
    obtain ⟨sy, hsy⟩ : ∃ sy : Int, sy = gZ Sy r := ⟨_, rfl⟩
    rw [← hsy] at X1
    have hsy' : gZ Sy (r : Int) = sy := hsy.symm
    have C2 := c1_st (i := 2) (v := .int (iZ ((r : Int) + 1))) rfl hc
    have C3 := c1_st (i := 3) (v := .int (iZ tr)) rfl C2
    have C4 := c1_st (i := 4) (v := .int (iZ 0)) rfl C3
    obtain ⟨lv', i1, i2, i3, i4⟩ := l42i (d + 1) hN hg1 v1 v2 hE1 nE r (fun i h1 h2 => hEe i (by omega) h2) (ar (pz P r)) (r + 1) tr _ hm2 (by omega) (by omega) har (by omega) C4 (by rw [lk_s C3, lk_s C2, lk_s hc]; exact l0) (by rw [lk_s C3, lk_s C2, lk_s hc]; rfl) (by rw [lk_s C3, lk_s C2]; rfl) (by rw [lk_s C3]; show some (Value.int (iZ 0)) = _; rw [show tr - (ar (pz P r) : Int) = 0 by omega]) (by omega)
    have hln : r + 1 + (tk (ar (pz P r)) (P.drop (r + 1))).length = r + (tm P r).length := by
      rw [tm_eq hrP, List.length_cons]
      omega
    rw [hln] at i3
    have htl := tm_len_le (P := P) (i := r) (by omega)
    obtain ⟨nx, hnx⟩ : ∃ nx : Nat, nx = r + (tm P r).length := ⟨_, rfl⟩
    rw [← hnx] at i3 htl
    have j0 : x_lk lv' 0 = some (.ref 19) := by rw [i2 0 (by decide) (by decide), lk_s C3, lk_s C2, lk_s hc]; exact l0
    have j1 : x_lk lv' 1 = some (.int (iZ (r : Int))) := by rw [i2 1 (by decide) (by decide), lk_s C3, lk_s C2, lk_s hc]; exact l1
    have D1 := c1_st (i := 1) (v := .int (iZ ((r : Int) + -1))) rfl i1
    obtain ⟨Ee', k1, k2, k3⟩ := ih (sZ Ee r nx) _ (by omega) (by rw [sZ_len]; exact nE) (fun i h1 h2 => by
      rw [gZ_sZ (by omega) (by omega) (by omega)]
      by_cases he : r = i
      · rw [if_pos (by omega), ← he, ← hnx]
      · rw [if_neg (by omega)]
        exact hEe i (by omega) h2) D1 (by rw [lk_s i1]; exact j0) (by rw [lk_s i1]; rfl)
    have e2 : uH w 18 (cI 0 (sZ Ee r nx)) = uH w1 18 (cI 0 (sZ Ee r nx)) := by rw [hw1, uH_upd]
    rw [e2] at k3
    refine ⟨Ee', k1, k2, Gx.run 60 X1 (fun X mm => ?_) (i4 _ (Gx.run 40 Cs.tt (fun X _ => ?_) k3))⟩
    · have ra : (r : Int) < 80 := by omega
      have rb : 0 ≤ (r : Int) := by omega
      have rc_ : ¬ (r : Int) < 0 := by omega
      simp (disch := first | (refine c1_id ?_; assumption) | (refine c1_st rfl ?_; repeat (first | assumption | refine c1_st rfl ?_)) | omega) [nx_l, nx_r, nx_n, x_st, x_push, x_bin, x_div, x_un, x_dup, x_pop, x_dup2, x_goto, x_ifeq, x_ifne, x_iflt, x_ifge, x_ifgt, x_ifle, x_iceq, x_icne, x_iclt, x_icge, x_icgt, x_icle, x_ifnull, x_ifnonnull, x_ldi, x_lda, x_sti, x_sta, x_iinc, x_gf, x_pf, x_ald, x_ast, x_aln, x_len, x_cl_, x_cv, x_cs, x_rc, x_r0, x_isT, x_oi, x_rv, x_ri, x_ra, Value.category, t42_0, t42_1, t42_4, t42_5, t42_6, t42_7, t42_8, t42_11, t42_12, t42_13, t42_14, t42_15, t42_16, t42_19, t42_20, t42_21, t42_24, t42_25, t42_26, t42_28, t42_30, t42_31, t42_34, t42_35, t42_36, t42_39, t42_42, t42_43, t42_46, t42_47, t42_48, t42_49, t42_52, t42_55, t42_56, t42_59, t42_60, t42_61, t42_62, t42_65, t42_68, lk_s, hp_get, hp_set, uH_at, uH_ne, uH_upd, uH_swap, iZ_add, iZ_sub, iZ_mul, iZ_neg, iZ_lt, iZ_le, iZ_eq, iZ_div, iZ_of, ix_Z, gZ_map, gZ_mapI, gZ_map', le_0, le_s, sZ_map, sZ_len, bZ_0, bZ_inj, bZ_t, bZ_f, nr_i, nr_0, nr_1, nr_b, ft_i, ft_b, ft_0, ft_1, zl_0, zl_1, l0, l1, hg1, hS1, hsy', mm, rc_, gO, gF, -List.filter_filter, -List.getElem?_map, -List.getD_eq_getElem?_getD]
    · have ra : (r : Int) < 80 := by omega
      have rb : 0 ≤ (r : Int) := by omega
      have nb : (nx : Int) ≤ 80 := by omega
      simp (disch := first | (refine c1_id ?_; assumption) | (refine c1_st rfl ?_; repeat (first | assumption | refine c1_st rfl ?_)) | omega) [nx_l, nx_r, nx_n, x_st, x_push, x_bin, x_div, x_un, x_dup, x_pop, x_dup2, x_goto, x_ifeq, x_ifne, x_iflt, x_ifge, x_ifgt, x_ifle, x_iceq, x_icne, x_iclt, x_icge, x_icgt, x_icle, x_ifnull, x_ifnonnull, x_ldi, x_lda, x_sti, x_sta, x_iinc, x_gf, x_pf, x_ald, x_ast, x_aln, x_len, x_cl_, x_cv, x_cs, x_rc, x_r0, x_isT, x_oi, x_rv, x_ri, x_ra, Value.category, t42_0, t42_1, t42_4, t42_5, t42_6, t42_7, t42_8, t42_11, t42_12, t42_13, t42_14, t42_15, t42_16, t42_19, t42_20, t42_21, t42_24, t42_25, t42_26, t42_28, t42_30, t42_31, t42_34, t42_35, t42_36, t42_39, t42_42, t42_43, t42_46, t42_47, t42_48, t42_49, t42_52, t42_55, t42_56, t42_59, t42_60, t42_61, t42_62, t42_65, t42_68, lk_s, hp_get, hp_set, uH_at, uH_ne, uH_upd, uH_swap, iZ_add, iZ_sub, iZ_mul, iZ_neg, iZ_lt, iZ_le, iZ_eq, iZ_div, iZ_of, ix_Z, gZ_map, gZ_mapI, gZ_map', le_0, le_s, sZ_map, sZ_len, bZ_0, bZ_inj, bZ_t, bZ_f, nr_i, nr_0, nr_1, nr_b, ft_i, ft_b, ft_0, ft_1, zl_0, zl_1, j0, j1, i3, hg1, hE1, gO, gF, -List.filter_filter, -List.getElem?_map, -List.getD_eq_getElem?_getD]
theorem m42 (d : Nat) (hN : 53 ≤ N) (hV : GV P Sy l) (hg : w 16 = gO l wt) (hS : w 17 = cI 0 Sy) {Ee : List Int} (hE : w 18 = cI 0 Ee) (e1 : Ee.length = 80) : ∃ Ee' : List Int, Ee'.length = 80 ∧ (∀ i, 0 ≤ i → i < l → gZ Ee' i = i + (tm P i.toNat).length) ∧ Xc (d + 2) 42 [.ref 19] (hp w N) (none, hp (uH w 18 (cI 0 Ee')) N) := by
  have v1 := hV.1
  have v2 := hV.2.1
  have hc : c1 (lv_args 0 [.ref 19]) := by simp [c1, lv_args, Value.category]
  have l0 : x_lk (lv_args 0 [.ref 19]) 0 = some (.ref 19) := rfl
  have C1 := c1_st (i := 1) (v := .int (iZ (l - 1))) rfl hc
  obtain ⟨Ee', k1, k2, k3⟩ := l42 d hN hV hg hS P.length Ee _ (Nat.le_refl _) e1 (fun i h1 h2 => by omega) C1 (by rw [lk_s hc]; exact l0) (by rw [lk_s hc, v1]; rfl)
  rw [uH_self hE] at k3
  refine ⟨Ee', k1, fun i i0 i1 => ?_, Xc.of rfl (by simp [lg_sl, Value.category]) (Gx.run 20 Cs.tt (fun X _ => ?_) k3) (hp_up (by rw [hE]; simp [x_c1, e1, k1]))⟩
  · have := k2 i.toNat (by omega)
    rw [show ((i.toNat : Nat) : Int) = i by omega] at this
    rw [this]
    omega
  · generalize lv_args 0 [.ref 19] = lv at hc l0
    simp (disch := first | (refine c1_id ?_; assumption) | (refine c1_st rfl ?_; repeat (first | assumption | refine c1_st rfl ?_)) | omega) [nx_l, nx_r, nx_n, x_st, x_push, x_bin, x_div, x_un, x_dup, x_pop, x_dup2, x_goto, x_ifeq, x_ifne, x_iflt, x_ifge, x_ifgt, x_ifle, x_iceq, x_icne, x_iclt, x_icge, x_icgt, x_icle, x_ifnull, x_ifnonnull, x_ldi, x_lda, x_sti, x_sta, x_iinc, x_gf, x_pf, x_ald, x_ast, x_aln, x_len, x_cl_, x_cv, x_cs, x_rc, x_r0, x_isT, x_oi, x_rv, x_ri, x_ra, Value.category, t42_0, t42_1, t42_4, t42_5, t42_6, t42_7, t42_8, t42_11, t42_12, t42_13, t42_14, t42_15, t42_16, t42_19, t42_20, t42_21, t42_24, t42_25, t42_26, t42_28, t42_30, t42_31, t42_34, t42_35, t42_36, t42_39, t42_42, t42_43, t42_46, t42_47, t42_48, t42_49, t42_52, t42_55, t42_56, t42_59, t42_60, t42_61, t42_62, t42_65, t42_68, lk_s, hp_get, hp_set, uH_at, uH_ne, uH_upd, uH_swap, iZ_add, iZ_sub, iZ_mul, iZ_neg, iZ_lt, iZ_le, iZ_eq, iZ_div, iZ_of, ix_Z, gZ_map, gZ_mapI, gZ_map', le_0, le_s, sZ_map, sZ_len, bZ_0, bZ_inj, bZ_t, bZ_f, nr_i, nr_0, nr_1, nr_b, ft_i, ft_b, ft_0, ft_1, zl_0, zl_1, l0, hg, gO, gF, -List.filter_filter, -List.getElem?_map, -List.getD_eq_getElem?_getD]
theorem GL.gv {Ro Fs : List Int} (h : GL w P Sy Ro Fs) {n : Nat} (hT : Ts n P) : GV P Sy P.length := by
  obtain ⟨⟨wt, a1⟩, a2, a3, a4, a5, ar_, a6, a7, a8, a9, a10, a11, a12⟩ := h
  have hv : ∀ i, i < P.length → ¬ pz P i < 99 → sgV (pz P i) := fun i hi hv => by
    have := a12 _ (pz_mem hi)
    exact ⟨this.1, this.2.1, fun z => absurd z hv⟩
  refine ⟨rfl, by omega, a3, fun i hi => ?_, fun i j hi hj vi vj => ?_, fun i hi => Ts_at hT hi⟩
  · obtain ⟨b1, b2, b3⟩ := a8 i hi
    refine ⟨b1, ?_, b2⟩
    by_cases hvv : pz P i < 99
    · have h8 := b2.mp hvv
      rw [ar_v hvv]
      unfold vs at b1
      omega
    · have := cv_ar (vs_vc (hv i hi hvv))
      rw [cv_vc (hv i hi hvv)] at this
      rw [b3 hvv, this]
  · rw [(a8 i hi).2.2 vi, (a8 j hj).2.2 vj]
    exact ⟨fun e => by rw [e], fun e => vc_inj (hv i hi vi) (hv j hj vj) e⟩
theorem GL.uj {Ro Fs : List Int} (h : GL w P Sy Ro Fs) {x y : Nat} (hx : x < P.length) (hy : y < P.length) : UJ P x y (rF Ro) [(x, y)] := by
  obtain ⟨⟨wt, a1⟩, a2, a3, a4, a5, ar_, a6, a7, a8, a9, a10, a11, a12⟩ := h
  have e : ∀ i, i < P.length → rF Ro i = if pz P i < 99 then P.idxOf (pz P i) else i := fun i hi => by
    unfold rF
    rw [a9 i hi]
    split
    · exact Int.toNat_natCast _
    · exact Int.toNat_natCast _
  have e2 : ∀ i, i < P.length → pz P i < 99 → rF Ro i = P.idxOf (pz P i) := fun i hi z => by rw [e i hi, if_pos z]
  refine UJ.init hx hy (fun i hi => ?_) (fun i hi z => by rw [e i hi, if_neg z]) (fun i hi z => ?_) (fun i j hi hj z ez => ?_)
  · rw [e i hi]
    split
    · exact (pz_idx (pz_mem hi)).1
    · exact hi
  · have h1 := pz_idx (pz_mem hi)
    rw [e2 i hi z]
    refine ⟨h1.2, ?_⟩
    rw [e2 _ h1.1 (by rw [h1.2]; exact z), h1.2]
  · rw [e2 i hi z, e2 j hj (by rw [← ez]; exact z), ez]
end CZ
