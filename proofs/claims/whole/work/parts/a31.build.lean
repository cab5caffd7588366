/-! new arrays; a builder of text -/
theorem f149_0 : x_fetch q_k149 0 = x_ldi 1 1 := rfl
theorem t149_0 (C : xF) (s n : Nat) (z : xS) : x_to q_k149 C s (n + 1) 0 z = x_nx q_k149 C s n ((x_ldi 1 1) C z) := x_to_at f149_0 C s n z
theorem f149_1 : x_fetch q_k149 1 = x_lda 2 0 := rfl
theorem t149_1 (C : xF) (s n : Nat) (z : xS) : x_to q_k149 C s (n + 1) 1 z = x_nx q_k149 C s n ((x_lda 2 0) C z) := x_to_at f149_1 C s n z
theorem f149_2 : x_fetch q_k149 2 = x_aln 3 6 := rfl
theorem t149_2 (C : xF) (s n : Nat) (z : xS) : x_to q_k149 C s (n + 1) 2 z = x_nx q_k149 C s n ((x_aln 3 6) C z) := x_to_at f149_2 C s n z
theorem f149_3 : x_fetch q_k149 3 = x_st (x_icne 14 6) := rfl
theorem t149_3 (C : xF) (s n : Nat) (z : xS) : x_to q_k149 C s (n + 1) 3 z = x_nx q_k149 C s n ((x_st (x_icne 14 6)) C z) := x_to_at f149_3 C s n z
theorem f149_6 : x_fetch q_k149 6 = x_lda 7 0 := rfl
theorem t149_6 (C : xF) (s n : Nat) (z : xS) : x_to q_k149 C s (n + 1) 6 z = x_nx q_k149 C s n ((x_lda 7 0) C z) := x_to_at f149_6 C s n z
theorem f149_7 : x_fetch q_k149 7 = x_cln 10 0 (fun _ => true) := rfl
theorem t149_7 (C : xF) (s n : Nat) (z : xS) : x_to q_k149 C s (n + 1) 7 z = x_nx q_k149 C s n ((x_cln 10 0 (fun _ => true)) C z) := x_to_at f149_7 C s n z
theorem f149_10 : x_fetch q_k149 10 = x_cst 13 0 := rfl
theorem t149_10 (C : xF) (s n : Nat) (z : xS) : x_to q_k149 C s (n + 1) 10 z = x_nx q_k149 C s n ((x_cst 13 0) C z) := x_to_at f149_10 C s n z
theorem f149_13 : x_fetch q_k149 13 = x_ra := rfl
theorem t149_13 (C : xF) (s n : Nat) (z : xS) : x_to q_k149 C s (n + 1) 13 z = x_nx q_k149 C s n ((x_ra) C z) := x_to_at f149_13 C s n z
theorem f149_14 : x_fetch q_k149 14 = x_ldi 15 1 := rfl
theorem t149_14 (C : xF) (s n : Nat) (z : xS) : x_to q_k149 C s (n + 1) 14 z = x_nx q_k149 C s n ((x_ldi 15 1) C z) := x_to_at f149_14 C s n z
theorem f149_15 : x_fetch q_k149 15 = x_na 17 0 := rfl
theorem t149_15 (C : xF) (s n : Nat) (z : xS) : x_to q_k149 C s (n + 1) 15 z = x_nx q_k149 C s n ((x_na 17 0) C z) := x_to_at f149_15 C s n z
theorem f149_17 : x_fetch q_k149 17 = x_sta 18 2 := rfl
theorem t149_17 (C : xF) (s n : Nat) (z : xS) : x_to q_k149 C s (n + 1) 17 z = x_nx q_k149 C s n ((x_sta 18 2) C z) := x_to_at f149_17 C s n z
theorem f149_18 : x_fetch q_k149 18 = x_lda 19 0 := rfl
theorem t149_18 (C : xF) (s n : Nat) (z : xS) : x_to q_k149 C s (n + 1) 18 z = x_nx q_k149 C s n ((x_lda 19 0) C z) := x_to_at f149_18 C s n z
theorem f149_19 : x_fetch q_k149 19 = x_st (x_push 20 (.int (0))) := rfl
theorem t149_19 (C : xF) (s n : Nat) (z : xS) : x_to q_k149 C s (n + 1) 19 z = x_nx q_k149 C s n ((x_st (x_push 20 (.int (0)))) C z) := x_to_at f149_19 C s n z
theorem f149_20 : x_fetch q_k149 20 = x_lda 21 2 := rfl
theorem t149_20 (C : xF) (s n : Nat) (z : xS) : x_to q_k149 C s (n + 1) 20 z = x_nx q_k149 C s n ((x_lda 21 2) C z) := x_to_at f149_20 C s n z
theorem f149_21 : x_fetch q_k149 21 = x_st (x_push 22 (.int (0))) := rfl
theorem t149_21 (C : xF) (s n : Nat) (z : xS) : x_to q_k149 C s (n + 1) 21 z = x_nx q_k149 C s n ((x_st (x_push 22 (.int (0)))) C z) := x_to_at f149_21 C s n z
theorem f149_22 : x_fetch q_k149 22 = x_lda 23 0 := rfl
theorem t149_22 (C : xF) (s n : Nat) (z : xS) : x_to q_k149 C s (n + 1) 22 z = x_nx q_k149 C s n ((x_lda 23 0) C z) := x_to_at f149_22 C s n z
theorem f149_23 : x_fetch q_k149 23 = x_aln 24 6 := rfl
theorem t149_23 (C : xF) (s n : Nat) (z : xS) : x_to q_k149 C s (n + 1) 23 z = x_nx q_k149 C s n ((x_aln 24 6) C z) := x_to_at f149_23 C s n z
theorem f149_24 : x_fetch q_k149 24 = x_ldi 25 1 := rfl
theorem t149_24 (C : xF) (s n : Nat) (z : xS) : x_to q_k149 C s (n + 1) 24 z = x_nx q_k149 C s n ((x_ldi 25 1) C z) := x_to_at f149_24 C s n z
theorem f149_25 : x_fetch q_k149 25 = x_st (x_mm 28 (fun a b => if b < a then b else a)) := rfl
theorem t149_25 (C : xF) (s n : Nat) (z : xS) : x_to q_k149 C s (n + 1) 25 z = x_nx q_k149 C s n ((x_st (x_mm 28 (fun a b => if b < a then b else a))) C z) := x_to_at f149_25 C s n z
theorem f149_28 : x_fetch q_k149 28 = x_acp 31 0 := rfl
theorem t149_28 (C : xF) (s n : Nat) (z : xS) : x_to q_k149 C s (n + 1) 28 z = x_nx q_k149 C s n ((x_acp 31 0) C z) := x_to_at f149_28 C s n z
theorem f149_31 : x_fetch q_k149 31 = x_lda 32 2 := rfl
theorem t149_31 (C : xF) (s n : Nat) (z : xS) : x_to q_k149 C s (n + 1) 31 z = x_nx q_k149 C s n ((x_lda 32 2) C z) := x_to_at f149_31 C s n z
theorem f149_32 : x_fetch q_k149 32 = x_ra := rfl
theorem t149_32 (C : xF) (s n : Nat) (z : xS) : x_to q_k149 C s (n + 1) 32 z = x_nx q_k149 C s n ((x_ra) C z) := x_to_at f149_32 C s n z
theorem na_hp {w : Nat → xC} {N n t : Nat} {k : Int} (h0 : 0 ≤ k) (h1 : k ≤ 1000000) (K : xF) (lv : xL) (r : List Value) : x_na n t K (lv, .int (iZ k) :: r, hp w N) = some (.inl (n, lv, .ref (N + 3) :: r, hp (uH w N (cI t (List.replicate k.toNat 0))) (N + 1))) := by
  have e1 : ¬ (iZ k < 0 ∨ 1000000 < (iZ k).toNatClampNeg) := by
    rw [zl_0, iZ_lt (by omega) (by omega) (by omega) (by omega), iZ_clamp h0 (by omega)]
    omega
  show (if iZ k < 0 ∨ 1000000 < (iZ k).toNatClampNeg then none else some (Sum.inl (n, lv, Value.ref ((hp w N).length + 3) :: r, hp w N ++ [Sum.inl (t, Sum.inl (List.replicate (iZ k).toNatClampNeg 0))]))) = _
  have e2 : cI t (List.replicate k.toNat 0) = .inl (t, .inl (List.replicate k.toNat 0)) := by
    show Sum.inl (t, Sum.inl ((List.replicate k.toNat (0 : Int)).map iZ)) = _
    rw [List.map_replicate]
    rfl
  rw [if_neg e1, hp_len, iZ_clamp h0 (by omega), hp_push, e2]
theorem cpy_hp {A B : List Int} {k : Nat} (h1 : k ≤ A.length) (h2 : k ≤ B.length) : x_cpy (A.map iZ) (B.map iZ) 0 0 k = (A.take k ++ B.drop k).map iZ := by
  unfold x_cpy
  apply List.ext_getElem
  · simp
    omega
  · intro i h3 h4
    simp only [List.length_mapIdx, List.length_map] at h3
    rw [List.getElem_mapIdx]
    simp only [List.getElem_map]
    by_cases hi : i < k
    · rw [if_pos (by omega), Nat.sub_zero, Nat.zero_add, List.getD_eq_getElem?_getD, List.getElem?_eq_getElem (by simp; omega), List.getElem_append_left (by simp; omega)]
      simp
    · rw [if_neg (by omega), List.getElem_append_right (by simp; omega)]
      simp only [List.length_take, List.getElem_drop]
      congr 2
      omega
theorem bt_ok : ∀ n : Fin 128, fits .byte (.int (iZ ((n : Nat) : Int))) = true := by decide
theorem bts_ok {A : List Int} (h : ∀ x ∈ A, 0 ≤ x ∧ x < 128) : (A.map iZ).all (fun v => fits .byte (.int v)) = true := by
  rw [List.all_eq_true]
  intro v hv
  obtain ⟨x, hx, rfl⟩ := List.mem_map.mp hv
  have := h x hx
  have e := bt_ok ⟨x.toNat, by omega⟩
  rw [show (((⟨x.toNat, by omega⟩ : Fin 128) : Nat) : Int) = x by show ((x.toNat : Nat) : Int) = x; omega] at e
  exact e
theorem acq_hp {w : Nat → xC} {N a b n : Nat} {A B : List Int} {k : Int} (ha : a < N) (hb : b < N) (wa : w a = cI 5 A) (wb : w b = cI 5 B) (hA : ∀ x ∈ A, 0 ≤ x ∧ x < 128) (k0 : 0 ≤ k) (k1 : k ≤ A.length) (k2 : k ≤ B.length) (k9 : k ≤ 1000000) (K : xF) (lv : xL) : x_acq n 5 (fun v => fits .byte (.int v)) K (lv, [.int (iZ k), .int (iZ 0), .ref (b + 3), .int (iZ 0), .ref (a + 3)], hp w N) = some (.inl (n, lv, [], hp (uH w b (cI 5 (A.take k.toNat ++ B.drop k.toNat))) N)) := by
  have e1 : (hp w N)[a]? = some (cI 5 A) := by rw [hp_get ha, wa]
  have e2 : (hp w N)[b]? = some (cI 5 B) := by rw [hp_get hb, wb]
  have z0 : ¬ iZ 0 < 0 := by decide
  have z1 : ¬ iZ k < 0 := by
    rw [zl_0, iZ_lt (by omega) (by omega) (by omega) (by omega)]
    omega
  have z2 : (iZ 0).toNatClampNeg = 0 := by decide
  have z3 : (iZ k).toNatClampNeg = k.toNat := iZ_clamp k0 (by omega)
  show (match (hp w N)[a]?, (hp w N)[b]? with
    | some (.inl (ta, .inl xs)), some (.inl (tb, .inl ys)) => _
    | _, _ => _) = _
  rw [e1, e2]
  dsimp only
  rw [z2, z3, if_pos ⟨rfl, rfl, bts_ok hA, z0, z0, z1, by simp; omega, by simp; omega, by simp⟩, cpy_hp (by omega) (by omega), hp_set]
theorem acp_hp {w : Nat → xC} {N a b n : Nat} {A B : List Int} {k : Int} (ha : a < N) (hb : b < N) (wa : w a = cI 0 A) (wb : w b = cI 0 B) (k0 : 0 ≤ k) (k1 : k ≤ A.length) (k2 : k ≤ B.length) (k9 : k ≤ 1000000) (K : xF) (lv : xL) : x_acp n 0 K (lv, [.int (iZ k), .int (iZ 0), .ref (b + 3), .int (iZ 0), .ref (a + 3)], hp w N) = some (.inl (n, lv, [], hp (uH w b (cI 0 (A.take k.toNat ++ B.drop k.toNat))) N)) := by
  have e1 : (hp w N)[a]? = some (cI 0 A) := by rw [hp_get ha, wa]
  have e2 : (hp w N)[b]? = some (cI 0 B) := by rw [hp_get hb, wb]
  have z0 : ¬ iZ 0 < 0 := by decide
  have z1 : ¬ iZ k < 0 := by
    rw [zl_0, iZ_lt (by omega) (by omega) (by omega) (by omega)]
    omega
  have z2 : (iZ 0).toNatClampNeg = 0 := by decide
  have z3 : (iZ k).toNatClampNeg = k.toNat := iZ_clamp k0 (by omega)
  show (match (hp w N)[a]?, (hp w N)[b]? with
    | some (.inl (ta, .inl xs)), some (.inl (tb, .inl ys)) => _
    | _, _ => _) = _
  rw [e1, e2]
  dsimp only
  rw [z2, z3, if_pos ⟨rfl, rfl, z0, z0, z1, by simp; omega, by simp; omega, by simp⟩, cpy_hp (by omega) (by omega), hp_set]
theorem cln_hp {w : Nat → xC} {N a n t : Nat} {A : List Int} {ok : Int32 → Bool} (ha : a < N) (wa : w a = cI t A) (hA : (A.map iZ).all ok = true) (K : xF) (lv : xL) : x_cln n t ok K (lv, [.ref (a + 3)], hp w N) = some (.inl (n, lv, [.ref (N + 3)], hp (uH w N (cI t A)) (N + 1))) := by
  have e1 : (hp w N)[a]? = some (cI t A) := by rw [hp_get ha, wa]
  show (match (hp w N)[a]? with
    | some (.inl (tj, .inl xs)) => _
    | _ => _) = _
  rw [e1]
  dsimp only
  rw [if_pos ⟨rfl, hA, by simp⟩, hp_len, hp_push]
theorem cst_hp {w : Nat → xC} {N a n t : Nat} {A : List Int} (ha : a < N) (wa : w a = cI t A) (K : xF) (lv : xL) : x_cst n t K (lv, [.ref (a + 3)], hp w N) = some (.inl (n, lv, [.ref (a + 3)], hp w N)) := by
  have e1 : (hp w N)[a]? = some (cI t A) := by rw [hp_get ha, wa]
  show (match (hp w N)[a]? with
    | some (.inl (tj, _)) => _
    | _ => _) = _
  rw [e1]
  dsimp only
  rw [if_pos rfl]
theorem hp_gr {w : Nat → xC} {N : Nat} {c : xC} : x_le (hp w N) (hp (uH w N c) (N + 1)) := hp_le (by omega) (fun j hj => by rw [uH_ne (by omega)]; exact Nat.le_refl _)
theorem sh_r (x : Int32) : x >>> (iZ 0 &&& 31) = x := by
  have : iZ 0 &&& 31 = 0 := by decide
  rw [this]
  exact Int32.shiftRight_zero
theorem sh_l (x : Int32) : x <<< (iZ 0 &&& 31) = x := by
  have : iZ 0 &&& 31 = 0 := by decide
  rw [this]
  exact Int32.shiftLeft_zero
theorem nr_B0 : narrow .byte (.int (iZ 0)) = .int (iZ 0) := by decide
theorem ft_B0 : fits .byte (.int (iZ 0)) = true := by decide
theorem nr_ar (t : FieldType) (n : Nat) : narrow (.array t) (.ref n) = .ref n := rfl
theorem ft_ar (t : FieldType) (n : Nat) : fits (.array t) (.ref n) = true := rfl
theorem nr_ob (t : String) (n : Nat) : narrow (.object t) (.ref n) = .ref n := rfl
theorem ft_ob (t : String) (n : Nat) : fits (.object t) (.ref n) = true := rfl
abbrev bO (v : Nat) (n : Int) : xC := .inr (14, [.ref (v + 3), .int (iZ 0), .int (iZ 0), .int (iZ n)])
section BU
variable {w : Nat → xC} {N sb v : Nat} {Bv : List Int} {n : Int}
theorem m149 (d : Nat) {a : Nat} {A : List Int} (ha : a < N) (wa : w a = cI 0 A) (lA : A.length < 10000) (k : Nat) (hk : k ≤ A.length) : Xc (d + 1) 149 [.ref (a + 3), .int (iZ (k : Int))] (hp w N) (some (.ref (N + 3)), hp (uH w N (cI 0 (A.take k))) (N + 1)) := by
  refine Xc.of rfl (by simp [lg_sl, Value.category]) ?_ (hp_gr)
  have hc : c1 (lv_args 0 [.ref (a + 3), .int (iZ (k : Int))]) := by simp [c1, lv_args, Value.category]
  have l0 : x_lk (lv_args 0 [.ref (a + 3), .int (iZ (k : Int))]) 0 = some (.ref (a + 3)) := rfl
  have l1 : x_lk (lv_args 0 [.ref (a + 3), .int (iZ (k : Int))]) 1 = some (.int (iZ (k : Int))) := rfl
  generalize lv_args 0 [.ref (a + 3), .int (iZ (k : Int))] = lv at hc l0 l1
  by_cases he : k = A.length
  · have A1 := fun K lv => cln_hp (n := 10) (ok := fun _ => true) ha wa (by simp) K lv
    have A2 := fun K lv => cst_hp (w := uH w N (cI 0 A)) (N := N + 1) (a := N) (n := 13) (t := 0) (A := A) (by omega) (uH_at _ _ _) K lv
    rw [he, List.take_length]
    refine Gx.fin 20 Cs.tt (fun X _ => ?_)
    obtain ⟨q, hq⟩ : ∃ q : Int, q = (A.length : Int) := ⟨_, rfl⟩
    rw [he, ← hq] at l1
    have q0 : 0 ≤ q := by omega
    have q9 : q < 10000 := by omega
    have hq' : (A.length : Int) = q := hq.symm
    simp (disch := first | (refine c1_id ?_; assumption) | (refine c1_st rfl ?_; repeat (first | assumption | refine c1_st rfl ?_)) | omega) [nx_l, nx_r, nx_n, x_st, x_push, x_bin, x_div, x_un, x_dup, x_pop, x_dup2, x_goto, x_ifeq, x_ifne, x_iflt, x_ifge, x_ifgt, x_ifle, x_iceq, x_icne, x_iclt, x_icge, x_icgt, x_icle, x_ifnull, x_ifnonnull, x_ldi, x_lda, x_sti, x_sta, x_iinc, x_gf, x_pf, x_ald, x_ast, x_aln, x_len, x_cl_, x_cv, x_cs, x_rc, x_r0, x_isT, x_oi, x_rv, x_ri, x_ra, Value.category, t149_0, t149_1, t149_2, t149_3, t149_6, t149_7, t149_10, t149_13, t149_14, t149_15, t149_17, t149_18, t149_19, t149_20, t149_21, t149_22, t149_23, t149_24, t149_25, t149_28, t149_31, t149_32, lk_s, hp_get, hp_set, uH_at, uH_ne, uH_upd, uH_swap, iZ_add, iZ_sub, iZ_mul, iZ_neg, iZ_lt, iZ_le, iZ_eq, iZ_div, iZ_of, ix_Z, gZ_map, gZ_mapI, gZ_map', le_0, le_s, sZ_map, sZ_len, bZ_0, bZ_inj, bZ_t, bZ_f, nr_i, nr_0, nr_1, nr_b, ft_i, ft_b, ft_0, ft_1, zl_0, zl_1, l0, l1, wa, A1, A2, hq', -List.filter_filter, -List.getElem?_map, -List.getD_eq_getElem?_getD]
  · obtain ⟨q, hq⟩ : ∃ q : Int, q = (A.length : Int) := ⟨_, rfl⟩
    obtain ⟨kk, hkk⟩ : ∃ kk : Int, kk = (k : Int) := ⟨_, rfl⟩
    rw [← hkk] at l1
    have q9 : q < 10000 := by omega
    have hq' : (A.length : Int) = q := hq.symm
    have k0 : 0 ≤ kk := by omega
    have kq : kk < q := by omega
    have kne : ¬ kk = q := by omega
    have A1 := fun K lv r => na_hp (w := w) (N := N) (n := 17) (t := 0) (k := kk) k0 (by omega) K lv r
    have A2 := fun K lv => acp_hp (w := uH w N (cI 0 (List.replicate kk.toNat 0))) (N := N + 1) (a := a) (b := N) (n := 31) (A := A) (B := List.replicate kk.toNat 0) (k := kk) (by omega) (by omega) (by rw [uH_ne (by omega)]; exact wa) (uH_at _ _ _) k0 (by omega) (by simp; omega) (by omega) K lv
    rw [uH_upd] at A2
    have e1 : A.take kk.toNat ++ (List.replicate kk.toNat (0 : Int)).drop kk.toNat = A.take k := by
      rw [List.drop_eq_nil_of_le (by simp), List.append_nil, hkk, Int.toNat_natCast]
    rw [e1] at A2
    have wa' : uH w N (cI 0 (List.replicate kk.toNat 0)) a = cI 0 A := by rw [uH_ne (by omega)]; exact wa
    refine Gx.run 40 (pc' := 22) (z' := ((2, .ref (N + 3)) :: lv.filter (x_keep 2), [.int (iZ 0), .ref (N + 3), .int (iZ 0), .ref (a + 3)], hp (uH w N (cI 0 (List.replicate kk.toNat 0))) (N + 1))) Cs.tt (fun X _ => ?_) ?_
    · obtain ⟨w1, hw1⟩ : ∃ w1, w1 = uH w N (cI 0 (List.replicate kk.toNat 0)) := ⟨_, rfl⟩
      rw [← hw1] at A1
      rw [← hw1]
      simp (disch := first | (refine c1_id ?_; assumption) | (refine c1_st rfl ?_; repeat (first | assumption | refine c1_st rfl ?_)) | omega) [nx_l, nx_r, nx_n, x_st, x_push, x_bin, x_div, x_un, x_dup, x_pop, x_dup2, x_goto, x_ifeq, x_ifne, x_iflt, x_ifge, x_ifgt, x_ifle, x_iceq, x_icne, x_iclt, x_icge, x_icgt, x_icle, x_ifnull, x_ifnonnull, x_ldi, x_lda, x_sti, x_sta, x_iinc, x_gf, x_pf, x_ald, x_ast, x_aln, x_len, x_cl_, x_cv, x_cs, x_rc, x_r0, x_isT, x_oi, x_rv, x_ri, x_ra, Value.category, t149_0, t149_1, t149_2, t149_3, t149_6, t149_7, t149_10, t149_13, t149_14, t149_15, t149_17, t149_18, t149_19, t149_20, t149_21, t149_22, t149_23, t149_24, t149_25, t149_28, t149_31, t149_32, lk_s, hp_get, hp_set, uH_at, uH_ne, uH_upd, uH_swap, iZ_add, iZ_sub, iZ_mul, iZ_neg, iZ_lt, iZ_le, iZ_eq, iZ_div, iZ_of, ix_Z, gZ_map, gZ_mapI, gZ_map', le_0, le_s, sZ_map, sZ_len, bZ_0, bZ_inj, bZ_t, bZ_f, nr_i, nr_0, nr_1, nr_b, ft_i, ft_b, ft_0, ft_1, zl_0, zl_1, l0, l1, wa, A1, hq', kne, -List.filter_filter, -List.getElem?_map, -List.getD_eq_getElem?_getD]
    · have C2 := c1_st (i := 2) (v := .ref (N + 3)) rfl hc
      have j0 : x_lk ((2, .ref (N + 3)) :: lv.filter (x_keep 2)) 0 = some (.ref (a + 3)) := by rw [lk_s hc]; exact l0
      have j1 : x_lk ((2, .ref (N + 3)) :: lv.filter (x_keep 2)) 1 = some (.int (iZ kk)) := by rw [lk_s hc]; exact l1
      have j2 : x_lk ((2, .ref (N + 3)) :: lv.filter (x_keep 2)) 2 = some (.ref (N + 3)) := by rw [lk_s hc]; rfl
      generalize ((2, .ref (N + 3)) :: lv.filter (x_keep 2) : xL) = lv2 at C2 j0 j1 j2
      obtain ⟨w1, hw1⟩ : ∃ w1, w1 = uH w N (cI 0 (List.replicate kk.toNat 0)) := ⟨_, rfl⟩
      rw [← hw1] at A2 wa' ⊢
      refine Gx.fin 40 Cs.tt (fun X _ => ?_)
      have mn : kk < q := kq
      simp (disch := first | (refine c1_id ?_; assumption) | (refine c1_st rfl ?_; repeat (first | assumption | refine c1_st rfl ?_)) | omega) [nx_l, nx_r, nx_n, x_st, x_push, x_bin, x_div, x_un, x_dup, x_pop, x_dup2, x_goto, x_ifeq, x_ifne, x_iflt, x_ifge, x_ifgt, x_ifle, x_iceq, x_icne, x_iclt, x_icge, x_icgt, x_icle, x_ifnull, x_ifnonnull, x_ldi, x_lda, x_sti, x_sta, x_iinc, x_gf, x_pf, x_ald, x_ast, x_aln, x_len, x_cl_, x_cv, x_cs, x_rc, x_r0, x_isT, x_oi, x_rv, x_ri, x_ra, Value.category, t149_0, t149_1, t149_2, t149_3, t149_6, t149_7, t149_10, t149_13, t149_14, t149_15, t149_17, t149_18, t149_19, t149_20, t149_21, t149_22, t149_23, t149_24, t149_25, t149_28, t149_31, t149_32, lk_s, hp_get, hp_set, uH_at, uH_ne, uH_upd, uH_swap, iZ_add, iZ_sub, iZ_mul, iZ_neg, iZ_lt, iZ_le, iZ_eq, iZ_div, iZ_of, ix_Z, gZ_map, gZ_mapI, gZ_map', le_0, le_s, sZ_map, sZ_len, bZ_0, bZ_inj, bZ_t, bZ_f, nr_i, nr_0, nr_1, nr_b, ft_i, ft_b, ft_0, ft_1, zl_0, zl_1, j0, j1, j2, wa', A2, hq', mn, x_mm, -List.filter_filter, -List.getElem?_map, -List.getD_eq_getElem?_getD]
end BU
