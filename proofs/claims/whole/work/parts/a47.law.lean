/-! the law: given and step, with what they throw -/
theorem f146_0 : x_fetch q_k146 0 = x_lda 1 1 := rfl
theorem t146_0 (C : xF) (s n : Nat) (z : xS) : x_to q_k146 C s (n + 1) 0 z = x_nx q_k146 C s n ((x_lda 1 1) C z) := x_to_at f146_0 C s n z
theorem f146_1 : x_fetch q_k146 1 = x_st (x_push 2 (.int (0))) := rfl
theorem t146_1 (C : xF) (s n : Nat) (z : xS) : x_to q_k146 C s (n + 1) 1 z = x_nx q_k146 C s n ((x_st (x_push 2 (.int (0)))) C z) := x_to_at f146_1 C s n z
theorem f146_2 : x_fetch q_k146 2 = x_lda 3 0 := rfl
theorem t146_2 (C : xF) (s n : Nat) (z : xS) : x_to q_k146 C s (n + 1) 2 z = x_nx q_k146 C s n ((x_lda 3 0) C z) := x_to_at f146_2 C s n z
theorem f146_3 : x_fetch q_k146 3 = x_ct 6 69 1 0 [(9, 11), (10, 14)] := rfl
theorem t146_3 (C : xF) (s n : Nat) (z : xS) : x_to q_k146 C s (n + 1) 3 z = x_nx q_k146 C s n ((x_ct 6 69 1 0 [(9, 11), (10, 14)]) C z) := x_to_at f146_3 C s n z
theorem f146_6 : x_fetch q_k146 6 = x_st (x_un 7 (fun a => .long a.toInt64)) := rfl
theorem t146_6 (C : xF) (s n : Nat) (z : xS) : x_to q_k146 C s (n + 1) 6 z = x_nx q_k146 C s n ((x_st (x_un 7 (fun a => .long a.toInt64))) C z) := x_to_at f146_6 C s n z
theorem f146_7 : x_fetch q_k146 7 = x_astl 8 3 := rfl
theorem t146_7 (C : xF) (s n : Nat) (z : xS) : x_to q_k146 C s (n + 1) 7 z = x_nx q_k146 C s n ((x_astl 8 3) C z) := x_to_at f146_7 C s n z
theorem f146_8 : x_fetch q_k146 8 = x_st (x_goto 17) := rfl
theorem t146_8 (C : xF) (s n : Nat) (z : xS) : x_to q_k146 C s (n + 1) 8 z = x_nx q_k146 C s n ((x_st (x_goto 17)) C z) := x_to_at f146_8 C s n z
theorem f146_11 : x_fetch q_k146 11 = x_sta 12 2 := rfl
theorem t146_11 (C : xF) (s n : Nat) (z : xS) : x_to q_k146 C s (n + 1) 11 z = x_nx q_k146 C s n ((x_sta 12 2) C z) := x_to_at f146_11 C s n z
theorem f146_12 : x_fetch q_k146 12 = x_st (x_push 13 (.int (1))) := rfl
theorem t146_12 (C : xF) (s n : Nat) (z : xS) : x_to q_k146 C s (n + 1) 12 z = x_nx q_k146 C s n ((x_st (x_push 13 (.int (1)))) C z) := x_to_at f146_12 C s n z
theorem f146_13 : x_fetch q_k146 13 = x_ri (.int) := rfl
theorem t146_13 (C : xF) (s n : Nat) (z : xS) : x_to q_k146 C s (n + 1) 13 z = x_nx q_k146 C s n ((x_ri (.int)) C z) := x_to_at f146_13 C s n z
theorem f146_14 : x_fetch q_k146 14 = x_sta 15 2 := rfl
theorem t146_14 (C : xF) (s n : Nat) (z : xS) : x_to q_k146 C s (n + 1) 14 z = x_nx q_k146 C s n ((x_sta 15 2) C z) := x_to_at f146_14 C s n z
theorem f146_15 : x_fetch q_k146 15 = x_st (x_push 16 (.int (2))) := rfl
theorem t146_15 (C : xF) (s n : Nat) (z : xS) : x_to q_k146 C s (n + 1) 15 z = x_nx q_k146 C s n ((x_st (x_push 16 (.int (2)))) C z) := x_to_at f146_15 C s n z
theorem f146_16 : x_fetch q_k146 16 = x_ri (.int) := rfl
theorem t146_16 (C : xF) (s n : Nat) (z : xS) : x_to q_k146 C s (n + 1) 16 z = x_nx q_k146 C s n ((x_ri (.int)) C z) := x_to_at f146_16 C s n z
theorem f146_17 : x_fetch q_k146 17 = x_st (x_push 18 (.int (0))) := rfl
theorem t146_17 (C : xF) (s n : Nat) (z : xS) : x_to q_k146 C s (n + 1) 17 z = x_nx q_k146 C s n ((x_st (x_push 18 (.int (0)))) C z) := x_to_at f146_17 C s n z
theorem f146_18 : x_fetch q_k146 18 = x_ri (.int) := rfl
theorem t146_18 (C : xF) (s n : Nat) (z : xS) : x_to q_k146 C s (n + 1) 18 z = x_nx q_k146 C s n ((x_ri (.int)) C z) := x_to_at f146_18 C s n z
theorem f147_0 : x_fetch q_k147 0 = x_lda 2 7 := rfl
theorem t147_0 (C : xF) (s n : Nat) (z : xS) : x_to q_k147 C s (n + 1) 0 z = x_nx q_k147 C s n ((x_lda 2 7) C z) := x_to_at f147_0 C s n z
theorem f147_2 : x_fetch q_k147 2 = x_st (x_push 3 (.int (0))) := rfl
theorem t147_2 (C : xF) (s n : Nat) (z : xS) : x_to q_k147 C s (n + 1) 2 z = x_nx q_k147 C s n ((x_st (x_push 3 (.int (0)))) C z) := x_to_at f147_2 C s n z
theorem f147_3 : x_fetch q_k147 3 = x_lda 4 0 := rfl
theorem t147_3 (C : xF) (s n : Nat) (z : xS) : x_to q_k147 C s (n + 1) 3 z = x_nx q_k147 C s n ((x_lda 4 0) C z) := x_to_at f147_3 C s n z
theorem f147_4 : x_fetch q_k147 4 = x_ldi 5 1 := rfl
theorem t147_4 (C : xF) (s n : Nat) (z : xS) : x_to q_k147 C s (n + 1) 4 z = x_nx q_k147 C s n ((x_ldi 5 1) C z) := x_to_at f147_4 C s n z
theorem f147_5 : x_fetch q_k147 5 = x_ldi 6 2 := rfl
theorem t147_5 (C : xF) (s n : Nat) (z : xS) : x_to q_k147 C s (n + 1) 5 z = x_nx q_k147 C s n ((x_ldi 6 2) C z) := x_to_at f147_5 C s n z
theorem f147_6 : x_fetch q_k147 6 = x_ldi 7 3 := rfl
theorem t147_6 (C : xF) (s n : Nat) (z : xS) : x_to q_k147 C s (n + 1) 6 z = x_nx q_k147 C s n ((x_ldi 7 3) C z) := x_to_at f147_6 C s n z
theorem f147_7 : x_fetch q_k147 7 = x_ldi 9 4 := rfl
theorem t147_7 (C : xF) (s n : Nat) (z : xS) : x_to q_k147 C s (n + 1) 7 z = x_nx q_k147 C s n ((x_ldi 9 4) C z) := x_to_at f147_7 C s n z
theorem f147_9 : x_fetch q_k147 9 = x_ldi 11 5 := rfl
theorem t147_9 (C : xF) (s n : Nat) (z : xS) : x_to q_k147 C s (n + 1) 9 z = x_nx q_k147 C s n ((x_ldi 11 5) C z) := x_to_at f147_9 C s n z
theorem f147_11 : x_fetch q_k147 11 = x_ldi 13 6 := rfl
theorem t147_11 (C : xF) (s n : Nat) (z : xS) : x_to q_k147 C s (n + 1) 11 z = x_nx q_k147 C s n ((x_ldi 13 6) C z) := x_to_at f147_11 C s n z
theorem f147_13 : x_fetch q_k147 13 = x_ct 16 70 7 0 [(10, 21), (11, 25), (9, 29), (12, 33)] := rfl
theorem t147_13 (C : xF) (s n : Nat) (z : xS) : x_to q_k147 C s (n + 1) 13 z = x_nx q_k147 C s n ((x_ct 16 70 7 0 [(10, 21), (11, 25), (9, 29), (12, 33)]) C z) := x_to_at f147_13 C s n z
theorem f147_16 : x_fetch q_k147 16 = x_st (x_un 17 (fun a => .long a.toInt64)) := rfl
theorem t147_16 (C : xF) (s n : Nat) (z : xS) : x_to q_k147 C s (n + 1) 16 z = x_nx q_k147 C s n ((x_st (x_un 17 (fun a => .long a.toInt64))) C z) := x_to_at f147_16 C s n z
theorem f147_17 : x_fetch q_k147 17 = x_astl 18 3 := rfl
theorem t147_17 (C : xF) (s n : Nat) (z : xS) : x_to q_k147 C s (n + 1) 17 z = x_nx q_k147 C s n ((x_astl 18 3) C z) := x_to_at f147_17 C s n z
theorem f147_18 : x_fetch q_k147 18 = x_st (x_goto 37) := rfl
theorem t147_18 (C : xF) (s n : Nat) (z : xS) : x_to q_k147 C s (n + 1) 18 z = x_nx q_k147 C s n ((x_st (x_goto 37)) C z) := x_to_at f147_18 C s n z
theorem f147_21 : x_fetch q_k147 21 = x_sta 23 8 := rfl
theorem t147_21 (C : xF) (s n : Nat) (z : xS) : x_to q_k147 C s (n + 1) 21 z = x_nx q_k147 C s n ((x_sta 23 8) C z) := x_to_at f147_21 C s n z
theorem f147_23 : x_fetch q_k147 23 = x_st (x_push 24 (.int (1))) := rfl
theorem t147_23 (C : xF) (s n : Nat) (z : xS) : x_to q_k147 C s (n + 1) 23 z = x_nx q_k147 C s n ((x_st (x_push 24 (.int (1)))) C z) := x_to_at f147_23 C s n z
theorem f147_24 : x_fetch q_k147 24 = x_ri (.int) := rfl
theorem t147_24 (C : xF) (s n : Nat) (z : xS) : x_to q_k147 C s (n + 1) 24 z = x_nx q_k147 C s n ((x_ri (.int)) C z) := x_to_at f147_24 C s n z
theorem f147_25 : x_fetch q_k147 25 = x_sta 27 8 := rfl
theorem t147_25 (C : xF) (s n : Nat) (z : xS) : x_to q_k147 C s (n + 1) 25 z = x_nx q_k147 C s n ((x_sta 27 8) C z) := x_to_at f147_25 C s n z
theorem f147_27 : x_fetch q_k147 27 = x_st (x_push 28 (.int (2))) := rfl
theorem t147_27 (C : xF) (s n : Nat) (z : xS) : x_to q_k147 C s (n + 1) 27 z = x_nx q_k147 C s n ((x_st (x_push 28 (.int (2)))) C z) := x_to_at f147_27 C s n z
theorem f147_28 : x_fetch q_k147 28 = x_ri (.int) := rfl
theorem t147_28 (C : xF) (s n : Nat) (z : xS) : x_to q_k147 C s (n + 1) 28 z = x_nx q_k147 C s n ((x_ri (.int)) C z) := x_to_at f147_28 C s n z
theorem f147_29 : x_fetch q_k147 29 = x_sta 31 8 := rfl
theorem t147_29 (C : xF) (s n : Nat) (z : xS) : x_to q_k147 C s (n + 1) 29 z = x_nx q_k147 C s n ((x_sta 31 8) C z) := x_to_at f147_29 C s n z
theorem f147_31 : x_fetch q_k147 31 = x_st (x_push 32 (.int (3))) := rfl
theorem t147_31 (C : xF) (s n : Nat) (z : xS) : x_to q_k147 C s (n + 1) 31 z = x_nx q_k147 C s n ((x_st (x_push 32 (.int (3)))) C z) := x_to_at f147_31 C s n z
theorem f147_32 : x_fetch q_k147 32 = x_ri (.int) := rfl
theorem t147_32 (C : xF) (s n : Nat) (z : xS) : x_to q_k147 C s (n + 1) 32 z = x_nx q_k147 C s n ((x_ri (.int)) C z) := x_to_at f147_32 C s n z
theorem f147_33 : x_fetch q_k147 33 = x_sta 35 8 := rfl
theorem t147_33 (C : xF) (s n : Nat) (z : xS) : x_to q_k147 C s (n + 1) 33 z = x_nx q_k147 C s n ((x_sta 35 8) C z) := x_to_at f147_33 C s n z
theorem f147_35 : x_fetch q_k147 35 = x_st (x_push 36 (.int (4))) := rfl
theorem t147_35 (C : xF) (s n : Nat) (z : xS) : x_to q_k147 C s (n + 1) 35 z = x_nx q_k147 C s n ((x_st (x_push 36 (.int (4)))) C z) := x_to_at f147_35 C s n z
theorem f147_36 : x_fetch q_k147 36 = x_ri (.int) := rfl
theorem t147_36 (C : xF) (s n : Nat) (z : xS) : x_to q_k147 C s (n + 1) 36 z = x_nx q_k147 C s n ((x_ri (.int)) C z) := x_to_at f147_36 C s n z
theorem f147_37 : x_fetch q_k147 37 = x_st (x_push 38 (.int (0))) := rfl
theorem t147_37 (C : xF) (s n : Nat) (z : xS) : x_to q_k147 C s (n + 1) 37 z = x_nx q_k147 C s n ((x_st (x_push 38 (.int (0)))) C z) := x_to_at f147_37 C s n z
theorem f147_38 : x_fetch q_k147 38 = x_ri (.int) := rfl
theorem t147_38 (C : xF) (s n : Nat) (z : xS) : x_to q_k147 C s (n + 1) 38 z = x_nx q_k147 C s n ((x_ri (.int)) C z) := x_to_at f147_38 C s n z
abbrev lO (v : Int64) : xC := .inl (3, .inr (.inl [v]))
theorem set_0 (v x : Int64) : [v].set (tN 0) x = [x] := rfl
theorem get_0 (v : Int64) : [v].getD (tN 0) 0 = v := rfl
theorem lg_eq (x : Int64) : lg_cmp x x = iZ 0 := by
  unfold lg_cmp
  rw [if_neg (by
    intro h
    exact absurd h Int64.lt_irrefl), if_pos rfl]
  rfl
theorem ch_Z (y : Int) : ∃ c : Int, 0 ≤ c ∧ c < 65536 ∧ ((iZ y).toUInt32 % 65536).toInt32 = iZ c := by
  obtain ⟨u, hu⟩ : ∃ u : UInt32, u = (iZ y).toUInt32 % 65536 := ⟨_, rfl⟩
  rw [← hu]
  have hn : u.toNat < 65536 := by
    rw [hu, UInt32.toNat_mod]
    exact Nat.mod_lt _ (by decide)
  refine ⟨(u.toNat : Int), by omega, by omega, ?_⟩
  apply Int32.toBitVec_inj.mp
  show u.toBitVec = BitVec.ofInt 32 (u.toNat : Int)
  apply BitVec.eq_of_toNat_eq
  rw [BitVec.ofInt_natCast, BitVec.toNat_ofNat, Nat.mod_eq_of_lt (by omega)]
  rfl
theorem xs_rng (x : Int32) : -2147483648 ≤ x.toInt ∧ x.toInt < 2147483648 := by
  have h1 := Int32.le_toInt x
  have h2 := Int32.toInt_lt x
  omega
theorem sld_Z {n b L : Nat} {xs : Nat → Int32} {a : Int} {r : List Value} (h0 : 0 ≤ a) (h1 : a < L) (h2 : L < 10000) : x_sld n b L xs (.int (iZ a) :: .retAddr (b + 1) :: r) = some (n, .int (iZ (xs a.toNat).toInt) :: r) := by
  have e1 : ¬ (iZ a < 0 ∨ L ≤ (iZ a).toNatClampNeg) := by
    rw [zl_0, iZ_lt (by omega) (by omega) (by omega) (by omega), iZ_clamp h0 (by omega)]
    omega
  show (if b + 1 = b + 1 then (if iZ a < 0 ∨ L ≤ (iZ a).toNatClampNeg then none else some (n, Value.int (xs (iZ a).toNatClampNeg) :: r)) else none) = _
  rw [if_pos rfl, if_neg e1, iZ_clamp h0 (by omega), iZ_self]
theorem sln_Z {n b L : Nat} {r : List Value} : x_sln n b L (.retAddr (b + 1) :: r) = some (n, .int (iZ (L : Int)) :: r) := by
  show (if b + 1 = b + 1 then some (n, Value.int (Int32.ofNat L) :: r) else none) = _
  rw [if_pos rfl, iZ_of]
section LGS
variable {w : Nat → xC} {N : Nat} {Ds : List (List (Int × List Int) × Bool × Int × Int)} {T U : List Int} {clm cf lf : Int} {v : Int64}
def kG (out : Option Value) : Int := if out = some (.retAddr 9) then 1 else if out = some (.retAddr 10) then 2 else 0
set_option maxHeartbeats 1000000 in
theorem m146 (d : Nat) (h : CS w N Ds T U clm cf lf) (h52 : w 52 = lO v) :
    ∃ (w' : Nat → xC) (N' : Nat) (kk : Int) (out : Option Value) (Ds' : List (List (Int × List Int) × Bool × Int × Int)) (U' : List Int) (clm' cf' lf' : Int) (v' : Int64), N ≤ N' ∧ N' ≤ N + 1 + 206 * (Ds'.length - Ds.length) ∧ CS w' N' Ds' [] U' clm' cf' lf' ∧ (∀ j, 27 ≤ j → j < 52 → w' j = w j) ∧ GVc Ds T U out lf' Ds' U' ∧ w' 52 = lO v' ∧ ((∃ t, out = some (.retAddr t)) ∨ v' = (iZ (Ds.length : Int)).toInt64) ∧ kk = kG out ∧ Xc (d + 57) 146 [.ref 3, .ref 55] (hp w N) (some (.int (iZ kk)), hp w' N') := by
  obtain ⟨w1, N1, out, Ds', U', cm, cf', lf', a1, a2, a3, a4, a5, a6, a7⟩ := m69 d h
  have hN := h.2.2.2.2.2.2.2.2.2.2.2.1
  have c0 := h.1
  have e52 : w1 52 = lO v := (a4 52 (by omega) (by omega)).trans h52
  have ex : ∀ t, out = some (.retAddr t) → (t = 9 ∧ kG out = 1) ∨ (t = 10 ∧ kG out = 2) → ∃ (w' : Nat → xC) (N' : Nat) (kk : Int) (out : Option Value) (Ds' : List (List (Int × List Int) × Bool × Int × Int)) (U' : List Int) (clm' cf' lf' : Int) (v' : Int64), N ≤ N' ∧ N' ≤ N + 1 + 206 * (Ds'.length - Ds.length) ∧ CS w' N' Ds' [] U' clm' cf' lf' ∧ (∀ j, 27 ≤ j → j < 52 → w' j = w j) ∧ GVc Ds T U out lf' Ds' U' ∧ w' 52 = lO v' ∧ ((∃ t, out = some (.retAddr t)) ∨ v' = (iZ (Ds.length : Int)).toInt64) ∧ kk = kG out ∧ Xc (d + 57) 146 [.ref 3, .ref 55] (hp w N) (some (.int (iZ kk)), hp w' N') := fun t ho hk => by
    refine ⟨w1, N1, kG out, out, Ds', U', cm, cf', lf', v, a1, a2, a3, fun j j0 j1 => a4 j j0 (by omega), a5, e52, Or.inl ⟨t, ho⟩, rfl, ?_⟩
    obtain ⟨x1, x2⟩ := a6 t ho
    obtain ⟨M, rfl⟩ : ∃ M, N1 = M + 1 := ⟨N1 - 1, by omega⟩
    rw [Nat.add_sub_cancel] at x1
    rw [ho] at a7
    have hle := h.le a3 a1 a4
    rcases hk with ⟨rfl, hk⟩ | ⟨rfl, hk⟩
    · rw [hk]
      refine Xc.of rfl (by simp [lg_sl, Value.category]) ?_ (hle)
      have hc : c1 (lv_args 0 [.ref 3, .ref 55]) := by simp [c1, lv_args, Value.category]
      have l0 : x_lk (lv_args 0 [.ref 3, .ref 55]) 0 = some (.ref 3) := rfl
      have l1 : x_lk (lv_args 0 [.ref 3, .ref 55]) 1 = some (.ref 55) := rfl
      generalize lv_args 0 [.ref 3, .ref 55] = lv at hc l0 l1
      refine Gx.fin 30 a7 (fun X mm => ?_)
      simp (disch := first | (refine c1_id ?_; assumption) | (refine c1_st rfl ?_; repeat (first | assumption | refine c1_st rfl ?_)) | omega) [nx_l, nx_r, nx_n, x_st, x_push, x_bin, x_div, x_un, x_dup, x_pop, x_dup2, x_goto, x_ifeq, x_ifne, x_iflt, x_ifge, x_ifgt, x_ifle, x_iceq, x_icne, x_iclt, x_icge, x_icgt, x_icle, x_ifnull, x_ifnonnull, x_ldi, x_lda, x_sti, x_sta, x_iinc, x_gf, x_pf, x_ald, x_ast, x_aln, x_len, x_cl_, x_cv, x_cs, x_rc, x_r0, x_isT, x_oi, x_rv, x_ri, x_ra, Value.category, t146_0, t146_1, t146_2, t146_3, t146_6, t146_7, t146_8, t146_11, t146_12, t146_13, t146_14, t146_15, t146_16, t146_17, t146_18, lk_s, hp_get, hp_set, uH_at, uH_ne, uH_upd, uH_swap, iZ_add, iZ_sub, iZ_mul, iZ_neg, iZ_lt, iZ_le, iZ_eq, iZ_div, iZ_of, ix_Z, gZ_map, gZ_mapI, gZ_map', le_0, le_s, sZ_map, sZ_len, bZ_0, bZ_inj, bZ_t, bZ_f, nr_i, nr_0, nr_1, nr_b, ft_i, ft_b, ft_0, ft_1, zl_0, zl_1, zl_2, l0, l1, c0, x1, mm, x_ct, x_lkN, hp_len, dk, exO, -List.filter_filter, -List.getElem?_map, -List.getD_eq_getElem?_getD]
    · rw [hk]
      refine Xc.of rfl (by simp [lg_sl, Value.category]) ?_ (hle)
      have hc : c1 (lv_args 0 [.ref 3, .ref 55]) := by simp [c1, lv_args, Value.category]
      have l0 : x_lk (lv_args 0 [.ref 3, .ref 55]) 0 = some (.ref 3) := rfl
      have l1 : x_lk (lv_args 0 [.ref 3, .ref 55]) 1 = some (.ref 55) := rfl
      generalize lv_args 0 [.ref 3, .ref 55] = lv at hc l0 l1
      refine Gx.fin 30 a7 (fun X mm => ?_)
      simp (disch := first | (refine c1_id ?_; assumption) | (refine c1_st rfl ?_; repeat (first | assumption | refine c1_st rfl ?_)) | omega) [nx_l, nx_r, nx_n, x_st, x_push, x_bin, x_div, x_un, x_dup, x_pop, x_dup2, x_goto, x_ifeq, x_ifne, x_iflt, x_ifge, x_ifgt, x_ifle, x_iceq, x_icne, x_iclt, x_icge, x_icgt, x_icle, x_ifnull, x_ifnonnull, x_ldi, x_lda, x_sti, x_sta, x_iinc, x_gf, x_pf, x_ald, x_ast, x_aln, x_len, x_cl_, x_cv, x_cs, x_rc, x_r0, x_isT, x_oi, x_rv, x_ri, x_ra, Value.category, t146_0, t146_1, t146_2, t146_3, t146_6, t146_7, t146_8, t146_11, t146_12, t146_13, t146_14, t146_15, t146_16, t146_17, t146_18, lk_s, hp_get, hp_set, uH_at, uH_ne, uH_upd, uH_swap, iZ_add, iZ_sub, iZ_mul, iZ_neg, iZ_lt, iZ_le, iZ_eq, iZ_div, iZ_of, ix_Z, gZ_map, gZ_mapI, gZ_map', le_0, le_s, sZ_map, sZ_len, bZ_0, bZ_inj, bZ_t, bZ_f, nr_i, nr_0, nr_1, nr_b, ft_i, ft_b, ft_0, ft_1, zl_0, zl_1, zl_2, l0, l1, c0, x1, mm, x_ct, x_lkN, hp_len, dk, exO, -List.filter_filter, -List.getElem?_map, -List.getD_eq_getElem?_getD]
  have ok : out = some (.int (iZ (Ds.length : Int))) → ∃ (w' : Nat → xC) (N' : Nat) (kk : Int) (out : Option Value) (Ds' : List (List (Int × List Int) × Bool × Int × Int)) (U' : List Int) (clm' cf' lf' : Int) (v' : Int64), N ≤ N' ∧ N' ≤ N + 1 + 206 * (Ds'.length - Ds.length) ∧ CS w' N' Ds' [] U' clm' cf' lf' ∧ (∀ j, 27 ≤ j → j < 52 → w' j = w j) ∧ GVc Ds T U out lf' Ds' U' ∧ w' 52 = lO v' ∧ ((∃ t, out = some (.retAddr t)) ∨ v' = (iZ (Ds.length : Int)).toInt64) ∧ kk = kG out ∧ Xc (d + 57) 146 [.ref 3, .ref 55] (hp w N) (some (.int (iZ kk)), hp w' N') := fun ho => by
    have hk : kG out = 0 := by
      rw [ho]
      unfold kG
      rw [if_neg (fun z => by cases z), if_neg (fun z => by cases z)]
    obtain ⟨w2, hw2⟩ : ∃ w2, w2 = uH w1 52 (lO (iZ (Ds.length : Int)).toInt64) := ⟨_, rfl⟩
    have fr : ∀ j, j ≠ 52 → w2 j = w1 j := fun j hj => by rw [hw2, uH_ne hj]
    have hD := a3.2.2.2.2.2.2.2.2.2.1
    have hM := a3.2.2.2.2.2.2.2.2.2.2.1
    have CS2 : CS w2 N1 Ds' [] U' cm cf' lf' := by
      obtain ⟨z0, z30, ⟨p, Tx, z1, z2, z3⟩, ⟨Rf, r1, r2, r3⟩, z4, z5, z6, ⟨V, v1, v2⟩, z9, z10, z11, z12, z13⟩ := a3
      exact ⟨(fr 0 (by omega)).trans z0, z30, ⟨p, Tx, (fr 1 (by omega)).trans z1, (fr 2 (by omega)).trans z2, z3⟩, ⟨Rf, (fr 3 (by omega)).trans r1, r2, fun i hi => by
        obtain ⟨n, n1, n2⟩ := r3 i hi
        exact ⟨n, n1, n2.mv (Nat.le_refl _) (fun j j0 _ => fr j (by omega))⟩⟩, (fr 4 (by omega)).trans z4, (fr 5 (by omega)).trans z5, z6, ⟨V, (fr 6 (by omega)).trans v1, v2⟩, z9.mv (fun j j0 j1 => fr j (by omega)), z10.mv (fun j j0 j1 => fr j (by omega)), z11.mv (fun j j0 j1 => fr j (by omega)), z12, fun j j0 j1 => by rw [fr j (by omega)]; exact z13 j j0 j1⟩
    refine ⟨w2, N1, 0, out, Ds', U', cm, cf', lf', (iZ (Ds.length : Int)).toInt64, a1, a2, CS2, fun j j0 j1 => (fr j (by omega)).trans (a4 j j0 (by omega)), a5, by rw [hw2, uH_at], Or.inr rfl, hk.symm, ?_⟩
    have hle1 := h.le a3 a1 a4
    have hle : x_le (hp w N) (hp w2 N1) := hle1.trn (by rw [hw2]; exact hp_up (by rw [e52]; simp [x_c1]))
    rw [ho] at a7
    rw [hw2]
    obtain ⟨cnt, hcnt⟩ : ∃ cnt : Int, cnt = (Ds.length : Int) := ⟨_, rfl⟩
    rw [← hcnt] at a7 c0 ⊢
    rw [hw2, ← hcnt] at hle
    refine Xc.of rfl (by simp [lg_sl, Value.category]) ?_ (hle)
    have hc : c1 (lv_args 0 [.ref 3, .ref 55]) := by simp [c1, lv_args, Value.category]
    have l0 : x_lk (lv_args 0 [.ref 3, .ref 55]) 0 = some (.ref 3) := rfl
    have l1 : x_lk (lv_args 0 [.ref 3, .ref 55]) 1 = some (.ref 55) := rfl
    generalize lv_args 0 [.ref 3, .ref 55] = lv at hc l0 l1
    have n1 : 53 ≤ N1 := by omega
    refine Gx.fin 30 a7 (fun X mm => ?_)
    simp (disch := first | (refine c1_id ?_; assumption) | (refine c1_st rfl ?_; repeat (first | assumption | refine c1_st rfl ?_)) | omega) [nx_l, nx_r, nx_n, x_st, x_push, x_bin, x_div, x_un, x_dup, x_pop, x_dup2, x_goto, x_ifeq, x_ifne, x_iflt, x_ifge, x_ifgt, x_ifle, x_iceq, x_icne, x_iclt, x_icge, x_icgt, x_icle, x_ifnull, x_ifnonnull, x_ldi, x_lda, x_sti, x_sta, x_iinc, x_gf, x_pf, x_ald, x_ast, x_aln, x_len, x_cl_, x_cv, x_cs, x_rc, x_r0, x_isT, x_oi, x_rv, x_ri, x_ra, Value.category, t146_0, t146_1, t146_2, t146_3, t146_6, t146_7, t146_8, t146_11, t146_12, t146_13, t146_14, t146_15, t146_16, t146_17, t146_18, lk_s, hp_get, hp_set, uH_at, uH_ne, uH_upd, uH_swap, iZ_add, iZ_sub, iZ_mul, iZ_neg, iZ_lt, iZ_le, iZ_eq, iZ_div, iZ_of, ix_Z, gZ_map, gZ_mapI, gZ_map', le_0, le_s, sZ_map, sZ_len, bZ_0, bZ_inj, bZ_t, bZ_f, nr_i, nr_0, nr_1, nr_b, ft_i, ft_b, ft_0, ft_1, zl_0, zl_1, zl_2, l0, l1, c0, e52, mm, x_ct, x_astl, set_0, dk, lO, -List.filter_filter, -List.getElem?_map, -List.getD_eq_getElem?_getD]
  unfold GVc at a5
  cases hrd : rdQ T with
  | none =>
    rw [hrd] at a5
    exact ex 9 a5.1 (Or.inl ⟨rfl, by rw [a5.1]; rfl⟩)
  | some l =>
    rw [hrd] at a5
    dsimp only at a5
    split at a5
    · exact ex 9 a5.1 (Or.inl ⟨rfl, by rw [a5.1]; rfl⟩)
    · split at a5
      · exact ex 10 a5.1 (Or.inr ⟨rfl, by rw [a5.1]; rfl⟩)
      · exact ok a5.1
def kS (why : Int) : Int := if why = 0 then 0 else if why = -3 then 1 else if why = -4 then 2 else if why = -1 ∨ why = -2 then 3 else 4
set_option maxHeartbeats 1000000 in
theorem m147 (d : Nat) (h : CS w N Ds T U clm cf lf) (h52 : w 52 = lO v) (hK : KI Ds U) (hR : HR Ds) (rule i k j l p : Int) (rr : -2147483648 ≤ rule ∧ rule < 2147483648) (ir : -2147483648 ≤ i ∧ i < 2147483648) (kr : -2147483648 ≤ k ∧ k < 2147483648) (jr : -2147483648 ≤ j ∧ j < 2147483648) (lr : -2147483648 ≤ l ∧ l < 2147483648) (pr : -2147483648 ≤ p ∧ p < 2147483648) :
    ∃ (w' : Nat → xC) (N' : Nat) (why : Int) (Ds' : List (List (Int × List Int) × Bool × Int × Int)) (U' : List Int) (clm' cf' : Int) (v' : Int64), N ≤ N' ∧ N' ≤ N + 1 + 206 * (Ds'.length - Ds.length) ∧ CS w' N' Ds' [] U' clm' cf' why ∧ (∀ j, 27 ≤ j → j < 52 → w' j = w j) ∧ AVs Ds T U rule i k j l p why Ds' U' ∧ w' 52 = lO v' ∧ (why = 0 → v' = (iZ (Ds.length : Int)).toInt64) ∧ Xc (d + 57) 147 [.ref 3, .int (iZ rule), .int (iZ i), .int (iZ k), .int (iZ j), .int (iZ l), .int (iZ p), .ref 55] (hp w N) (some (.int (iZ (kS why))), hp w' N') := by
  obtain ⟨w1, N1, out, why, Ds', U', cm, cf', a1, a2, a3, a4, a5, a6, a7, a8, a9⟩ := m70 d h hK hR rule i k j l p rr ir kr jr lr pr
  have hN := h.2.2.2.2.2.2.2.2.2.2.2.1
  have c0 := h.1
  have e52 : w1 52 = lO v := (a4 52 (by omega) (by omega)).trans h52
  by_cases hw : why = 0
  · have ho := a7 hw
    obtain ⟨w2, hw2⟩ : ∃ w2, w2 = uH w1 52 (lO (iZ (Ds.length : Int)).toInt64) := ⟨_, rfl⟩
    have fr : ∀ j, j ≠ 52 → w2 j = w1 j := fun j hj => by rw [hw2, uH_ne hj]
    have CS2 : CS w2 N1 Ds' [] U' cm cf' why := by
      obtain ⟨z0, z30, ⟨p, Tx, z1, z2, z3⟩, ⟨Rf, r1, r2, r3⟩, z4, z5, z6, ⟨V, v1, v2⟩, z9, z10, z11, z12, z13⟩ := a3
      exact ⟨(fr 0 (by omega)).trans z0, z30, ⟨p, Tx, (fr 1 (by omega)).trans z1, (fr 2 (by omega)).trans z2, z3⟩, ⟨Rf, (fr 3 (by omega)).trans r1, r2, fun i hi => by
        obtain ⟨n, n1, n2⟩ := r3 i hi
        exact ⟨n, n1, n2.mv (Nat.le_refl _) (fun j j0 _ => fr j (by omega))⟩⟩, (fr 4 (by omega)).trans z4, (fr 5 (by omega)).trans z5, z6, ⟨V, (fr 6 (by omega)).trans v1, v2⟩, z9.mv (fun j j0 j1 => fr j (by omega)), z10.mv (fun j j0 j1 => fr j (by omega)), z11.mv (fun j j0 j1 => fr j (by omega)), z12, fun j j0 j1 => by rw [fr j (by omega)]; exact z13 j j0 j1⟩
    refine ⟨w2, N1, why, Ds', U', cm, cf', (iZ (Ds.length : Int)).toInt64, a1, a2, CS2, fun j j0 j1 => (fr j (by omega)).trans (a4 j j0 (by omega)), a5, by rw [hw2, uH_at], fun _ => rfl, ?_⟩
    have hle1 := h.le a3 a1 a4
    have hle : x_le (hp w N) (hp w2 N1) := hle1.trn (by rw [hw2]; exact hp_up (by rw [e52]; simp [x_c1]))
    have hk : kS why = 0 := by unfold kS; rw [if_pos hw]
    rw [hk]
    rw [ho] at a9
    rw [hw2]
    obtain ⟨cnt, hcnt⟩ : ∃ cnt : Int, cnt = (Ds.length : Int) := ⟨_, rfl⟩
    rw [← hcnt] at a9 c0 ⊢
    rw [hw2, ← hcnt] at hle
    refine Xc.of rfl (by simp [lg_sl, Value.category]) ?_ (hle)
    have hc : c1 (lv_args 0 [.ref 3, .int (iZ rule), .int (iZ i), .int (iZ k), .int (iZ j), .int (iZ l), .int (iZ p), .ref 55]) := by simp [c1, lv_args, Value.category]
    have l0 : x_lk (lv_args 0 [.ref 3, .int (iZ rule), .int (iZ i), .int (iZ k), .int (iZ j), .int (iZ l), .int (iZ p), .ref 55]) 0 = some (.ref 3) := rfl
    have l1 : x_lk (lv_args 0 [.ref 3, .int (iZ rule), .int (iZ i), .int (iZ k), .int (iZ j), .int (iZ l), .int (iZ p), .ref 55]) 1 = some (.int (iZ rule)) := rfl
    have l2 : x_lk (lv_args 0 [.ref 3, .int (iZ rule), .int (iZ i), .int (iZ k), .int (iZ j), .int (iZ l), .int (iZ p), .ref 55]) 2 = some (.int (iZ i)) := rfl
    have l3 : x_lk (lv_args 0 [.ref 3, .int (iZ rule), .int (iZ i), .int (iZ k), .int (iZ j), .int (iZ l), .int (iZ p), .ref 55]) 3 = some (.int (iZ k)) := rfl
    have l4 : x_lk (lv_args 0 [.ref 3, .int (iZ rule), .int (iZ i), .int (iZ k), .int (iZ j), .int (iZ l), .int (iZ p), .ref 55]) 4 = some (.int (iZ j)) := rfl
    have l5 : x_lk (lv_args 0 [.ref 3, .int (iZ rule), .int (iZ i), .int (iZ k), .int (iZ j), .int (iZ l), .int (iZ p), .ref 55]) 5 = some (.int (iZ l)) := rfl
    have l6 : x_lk (lv_args 0 [.ref 3, .int (iZ rule), .int (iZ i), .int (iZ k), .int (iZ j), .int (iZ l), .int (iZ p), .ref 55]) 6 = some (.int (iZ p)) := rfl
    have l7 : x_lk (lv_args 0 [.ref 3, .int (iZ rule), .int (iZ i), .int (iZ k), .int (iZ j), .int (iZ l), .int (iZ p), .ref 55]) 7 = some (.ref 55) := rfl
    generalize lv_args 0 [.ref 3, .int (iZ rule), .int (iZ i), .int (iZ k), .int (iZ j), .int (iZ l), .int (iZ p), .ref 55] = lv at hc l0 l1 l2 l3 l4 l5 l6 l7
    have n1 : 53 ≤ N1 := by omega
    refine Gx.fin 40 a9 (fun X mm => ?_)
    simp (disch := first | (refine c1_id ?_; assumption) | (refine c1_st rfl ?_; repeat (first | assumption | refine c1_st rfl ?_)) | omega) [nx_l, nx_r, nx_n, x_st, x_push, x_bin, x_div, x_un, x_dup, x_pop, x_dup2, x_goto, x_ifeq, x_ifne, x_iflt, x_ifge, x_ifgt, x_ifle, x_iceq, x_icne, x_iclt, x_icge, x_icgt, x_icle, x_ifnull, x_ifnonnull, x_ldi, x_lda, x_sti, x_sta, x_iinc, x_gf, x_pf, x_ald, x_ast, x_aln, x_len, x_cl_, x_cv, x_cs, x_rc, x_r0, x_isT, x_oi, x_rv, x_ri, x_ra, Value.category, t147_0, t147_2, t147_3, t147_4, t147_5, t147_6, t147_7, t147_9, t147_11, t147_13, t147_16, t147_17, t147_18, t147_21, t147_23, t147_24, t147_25, t147_27, t147_28, t147_29, t147_31, t147_32, t147_33, t147_35, t147_36, t147_37, t147_38, lk_s, hp_get, hp_set, uH_at, uH_ne, uH_upd, uH_swap, iZ_add, iZ_sub, iZ_mul, iZ_neg, iZ_lt, iZ_le, iZ_eq, iZ_div, iZ_of, ix_Z, gZ_map, gZ_mapI, gZ_map', le_0, le_s, sZ_map, sZ_len, bZ_0, bZ_inj, bZ_t, bZ_f, nr_i, nr_0, nr_1, nr_b, ft_i, ft_b, ft_0, ft_1, zl_0, zl_1, zl_2, zl_3, zl_4, l0, l1, l2, l3, l4, l5, l6, l7, c0, e52, mm, x_ct, x_astl, set_0, dk, lO, -List.filter_filter, -List.getElem?_map, -List.getD_eq_getElem?_getD]
  · have ho := a8 hw
    refine ⟨w1, N1, why, Ds', U', cm, cf', v, a1, a2, a3, fun j j0 j1 => a4 j j0 (by omega), a5, e52, fun z => absurd z hw, ?_⟩
    obtain ⟨x1, x2⟩ := a6 _ ho
    obtain ⟨M, rfl⟩ : ∃ M, N1 = M + 1 := ⟨N1 - 1, by omega⟩
    rw [Nat.add_sub_cancel] at x1
    rw [ho] at a9
    have hle := h.le a3 a1 a4
    unfold cd_ at a9 x1
    unfold kS
    rw [if_neg hw]
    refine Xc.of rfl (by simp [lg_sl, Value.category]) ?_ (hle)
    have hc : c1 (lv_args 0 [.ref 3, .int (iZ rule), .int (iZ i), .int (iZ k), .int (iZ j), .int (iZ l), .int (iZ p), .ref 55]) := by simp [c1, lv_args, Value.category]
    have l0 : x_lk (lv_args 0 [.ref 3, .int (iZ rule), .int (iZ i), .int (iZ k), .int (iZ j), .int (iZ l), .int (iZ p), .ref 55]) 0 = some (.ref 3) := rfl
    have l1 : x_lk (lv_args 0 [.ref 3, .int (iZ rule), .int (iZ i), .int (iZ k), .int (iZ j), .int (iZ l), .int (iZ p), .ref 55]) 1 = some (.int (iZ rule)) := rfl
    have l2 : x_lk (lv_args 0 [.ref 3, .int (iZ rule), .int (iZ i), .int (iZ k), .int (iZ j), .int (iZ l), .int (iZ p), .ref 55]) 2 = some (.int (iZ i)) := rfl
    have l3 : x_lk (lv_args 0 [.ref 3, .int (iZ rule), .int (iZ i), .int (iZ k), .int (iZ j), .int (iZ l), .int (iZ p), .ref 55]) 3 = some (.int (iZ k)) := rfl
    have l4 : x_lk (lv_args 0 [.ref 3, .int (iZ rule), .int (iZ i), .int (iZ k), .int (iZ j), .int (iZ l), .int (iZ p), .ref 55]) 4 = some (.int (iZ j)) := rfl
    have l5 : x_lk (lv_args 0 [.ref 3, .int (iZ rule), .int (iZ i), .int (iZ k), .int (iZ j), .int (iZ l), .int (iZ p), .ref 55]) 5 = some (.int (iZ l)) := rfl
    have l6 : x_lk (lv_args 0 [.ref 3, .int (iZ rule), .int (iZ i), .int (iZ k), .int (iZ j), .int (iZ l), .int (iZ p), .ref 55]) 6 = some (.int (iZ p)) := rfl
    have l7 : x_lk (lv_args 0 [.ref 3, .int (iZ rule), .int (iZ i), .int (iZ k), .int (iZ j), .int (iZ l), .int (iZ p), .ref 55]) 7 = some (.ref 55) := rfl
    generalize lv_args 0 [.ref 3, .int (iZ rule), .int (iZ i), .int (iZ k), .int (iZ j), .int (iZ l), .int (iZ p), .ref 55] = lv at hc l0 l1 l2 l3 l4 l5 l6 l7
    refine Gx.fin 40 a9 (fun X mm => ?_)
    by_cases e3 : why = -3
    · rw [if_pos e3] at mm x1 ⊢
      simp (disch := first | (refine c1_id ?_; assumption) | (refine c1_st rfl ?_; repeat (first | assumption | refine c1_st rfl ?_)) | omega) [nx_l, nx_r, nx_n, x_st, x_push, x_bin, x_div, x_un, x_dup, x_pop, x_dup2, x_goto, x_ifeq, x_ifne, x_iflt, x_ifge, x_ifgt, x_ifle, x_iceq, x_icne, x_iclt, x_icge, x_icgt, x_icle, x_ifnull, x_ifnonnull, x_ldi, x_lda, x_sti, x_sta, x_iinc, x_gf, x_pf, x_ald, x_ast, x_aln, x_len, x_cl_, x_cv, x_cs, x_rc, x_r0, x_isT, x_oi, x_rv, x_ri, x_ra, Value.category, t147_0, t147_2, t147_3, t147_4, t147_5, t147_6, t147_7, t147_9, t147_11, t147_13, t147_16, t147_17, t147_18, t147_21, t147_23, t147_24, t147_25, t147_27, t147_28, t147_29, t147_31, t147_32, t147_33, t147_35, t147_36, t147_37, t147_38, lk_s, hp_get, hp_set, uH_at, uH_ne, uH_upd, uH_swap, iZ_add, iZ_sub, iZ_mul, iZ_neg, iZ_lt, iZ_le, iZ_eq, iZ_div, iZ_of, ix_Z, gZ_map, gZ_mapI, gZ_map', le_0, le_s, sZ_map, sZ_len, bZ_0, bZ_inj, bZ_t, bZ_f, nr_i, nr_0, nr_1, nr_b, ft_i, ft_b, ft_0, ft_1, zl_0, zl_1, zl_2, zl_3, zl_4, l0, l1, l2, l3, l4, l5, l6, l7, c0, x1, mm, x_ct, x_lkN, hp_len, dk, exO, -List.filter_filter, -List.getElem?_map, -List.getD_eq_getElem?_getD]
    · rw [if_neg e3] at mm x1 ⊢
      by_cases e4 : why = -4
      · rw [if_pos e4] at mm x1 ⊢
        simp (disch := first | (refine c1_id ?_; assumption) | (refine c1_st rfl ?_; repeat (first | assumption | refine c1_st rfl ?_)) | omega) [nx_l, nx_r, nx_n, x_st, x_push, x_bin, x_div, x_un, x_dup, x_pop, x_dup2, x_goto, x_ifeq, x_ifne, x_iflt, x_ifge, x_ifgt, x_ifle, x_iceq, x_icne, x_iclt, x_icge, x_icgt, x_icle, x_ifnull, x_ifnonnull, x_ldi, x_lda, x_sti, x_sta, x_iinc, x_gf, x_pf, x_ald, x_ast, x_aln, x_len, x_cl_, x_cv, x_cs, x_rc, x_r0, x_isT, x_oi, x_rv, x_ri, x_ra, Value.category, t147_0, t147_2, t147_3, t147_4, t147_5, t147_6, t147_7, t147_9, t147_11, t147_13, t147_16, t147_17, t147_18, t147_21, t147_23, t147_24, t147_25, t147_27, t147_28, t147_29, t147_31, t147_32, t147_33, t147_35, t147_36, t147_37, t147_38, lk_s, hp_get, hp_set, uH_at, uH_ne, uH_upd, uH_swap, iZ_add, iZ_sub, iZ_mul, iZ_neg, iZ_lt, iZ_le, iZ_eq, iZ_div, iZ_of, ix_Z, gZ_map, gZ_mapI, gZ_map', le_0, le_s, sZ_map, sZ_len, bZ_0, bZ_inj, bZ_t, bZ_f, nr_i, nr_0, nr_1, nr_b, ft_i, ft_b, ft_0, ft_1, zl_0, zl_1, zl_2, zl_3, zl_4, l0, l1, l2, l3, l4, l5, l6, l7, c0, x1, mm, x_ct, x_lkN, hp_len, dk, exO, -List.filter_filter, -List.getElem?_map, -List.getD_eq_getElem?_getD]
      · rw [if_neg e4] at mm x1 ⊢
        by_cases e1 : why = -1 ∨ why = -2
        · rw [if_pos e1] at mm x1 ⊢
          simp (disch := first | (refine c1_id ?_; assumption) | (refine c1_st rfl ?_; repeat (first | assumption | refine c1_st rfl ?_)) | omega) [nx_l, nx_r, nx_n, x_st, x_push, x_bin, x_div, x_un, x_dup, x_pop, x_dup2, x_goto, x_ifeq, x_ifne, x_iflt, x_ifge, x_ifgt, x_ifle, x_iceq, x_icne, x_iclt, x_icge, x_icgt, x_icle, x_ifnull, x_ifnonnull, x_ldi, x_lda, x_sti, x_sta, x_iinc, x_gf, x_pf, x_ald, x_ast, x_aln, x_len, x_cl_, x_cv, x_cs, x_rc, x_r0, x_isT, x_oi, x_rv, x_ri, x_ra, Value.category, t147_0, t147_2, t147_3, t147_4, t147_5, t147_6, t147_7, t147_9, t147_11, t147_13, t147_16, t147_17, t147_18, t147_21, t147_23, t147_24, t147_25, t147_27, t147_28, t147_29, t147_31, t147_32, t147_33, t147_35, t147_36, t147_37, t147_38, lk_s, hp_get, hp_set, uH_at, uH_ne, uH_upd, uH_swap, iZ_add, iZ_sub, iZ_mul, iZ_neg, iZ_lt, iZ_le, iZ_eq, iZ_div, iZ_of, ix_Z, gZ_map, gZ_mapI, gZ_map', le_0, le_s, sZ_map, sZ_len, bZ_0, bZ_inj, bZ_t, bZ_f, nr_i, nr_0, nr_1, nr_b, ft_i, ft_b, ft_0, ft_1, zl_0, zl_1, zl_2, zl_3, zl_4, l0, l1, l2, l3, l4, l5, l6, l7, c0, x1, mm, x_ct, x_lkN, hp_len, dk, exO, -List.filter_filter, -List.getElem?_map, -List.getD_eq_getElem?_getD]
        · rw [if_neg e1] at mm x1 ⊢
          simp (disch := first | (refine c1_id ?_; assumption) | (refine c1_st rfl ?_; repeat (first | assumption | refine c1_st rfl ?_)) | omega) [nx_l, nx_r, nx_n, x_st, x_push, x_bin, x_div, x_un, x_dup, x_pop, x_dup2, x_goto, x_ifeq, x_ifne, x_iflt, x_ifge, x_ifgt, x_ifle, x_iceq, x_icne, x_iclt, x_icge, x_icgt, x_icle, x_ifnull, x_ifnonnull, x_ldi, x_lda, x_sti, x_sta, x_iinc, x_gf, x_pf, x_ald, x_ast, x_aln, x_len, x_cl_, x_cv, x_cs, x_rc, x_r0, x_isT, x_oi, x_rv, x_ri, x_ra, Value.category, t147_0, t147_2, t147_3, t147_4, t147_5, t147_6, t147_7, t147_9, t147_11, t147_13, t147_16, t147_17, t147_18, t147_21, t147_23, t147_24, t147_25, t147_27, t147_28, t147_29, t147_31, t147_32, t147_33, t147_35, t147_36, t147_37, t147_38, lk_s, hp_get, hp_set, uH_at, uH_ne, uH_upd, uH_swap, iZ_add, iZ_sub, iZ_mul, iZ_neg, iZ_lt, iZ_le, iZ_eq, iZ_div, iZ_of, ix_Z, gZ_map, gZ_mapI, gZ_map', le_0, le_s, sZ_map, sZ_len, bZ_0, bZ_inj, bZ_t, bZ_f, nr_i, nr_0, nr_1, nr_b, ft_i, ft_b, ft_0, ft_1, zl_0, zl_1, zl_2, zl_3, zl_4, l0, l1, l2, l3, l4, l5, l6, l7, c0, x1, mm, x_ct, x_lkN, hp_len, dk, exO, -List.filter_filter, -List.getElem?_map, -List.getD_eq_getElem?_getD]
end LGS
