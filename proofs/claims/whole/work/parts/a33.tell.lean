/-! the text of a term, as both sides tell it -/

def cst : List Nat → Nat
  | [] => 1
  | n :: K => n + cst K - 1
theorem cst_pos : ∀ {K : List Nat}, (∀ n ∈ K, 1 ≤ n) → 1 ≤ cst K
  | [], _ => Nat.le_refl _
  | n :: K, h => by
    have h1 := h n List.mem_cons_self
    have h2 := cst_pos (K := K) (fun m hm => h m (List.mem_cons_of_mem _ hm))
    show 1 ≤ n + cst K - 1
    omega
theorem clz_app : ∀ {K0 K : List Nat}, (∀ n ∈ K0, 1 ≤ n) → (cst K0 = 1 → clz (K0 ++ K) = ((clz K0).1 ++ (clz K).1, (clz K).2) ∧ (clz K0).2 = []) ∧ (cst K0 ≠ 1 → clz (K0 ++ K) = ((clz K0).1, (clz K0).2 ++ K) ∧ cst (clz K0).2 = cst K0 - 1 ∧ ∀ n ∈ (clz K0).2, 1 ≤ n)
  | [], K, _ => ⟨fun _ => ⟨rfl, rfl⟩, fun h => absurd rfl h⟩
  | n :: K0, K, h => by
    have hn := h n List.mem_cons_self
    have hK : ∀ m ∈ K0, 1 ≤ m := fun m hm => h m (List.mem_cons_of_mem _ hm)
    have c0 := cst_pos hK
    obtain ⟨i1, i2⟩ := clz_app (K := K) hK
    have e1 : clz (n :: K0 ++ K) = if n ≤ 1 then (41 :: (clz (K0 ++ K)).1, (clz (K0 ++ K)).2) else ([44], (n - 1) :: (K0 ++ K)) := by
      show clz (n :: (K0 ++ K)) = _
      conv => lhs; unfold clz
    have e2 : clz (n :: K0) = if n ≤ 1 then (41 :: (clz K0).1, (clz K0).2) else ([44], (n - 1) :: K0) := by
      conv => lhs; unfold clz
    have e3 : cst (n :: K0) = n + cst K0 - 1 := rfl
    rw [e1, e2, e3]
    by_cases h1 : n ≤ 1
    · rw [if_pos h1, if_pos h1]
      have hn1 : n = 1 := by omega
      refine ⟨fun hc => ?_, fun hc => ?_⟩
      · obtain ⟨j1, j2⟩ := i1 (by omega)
        rw [j1]
        exact ⟨rfl, j2⟩
      · obtain ⟨j1, j2, j3⟩ := i2 (by omega)
        rw [j1]
        exact ⟨rfl, by show cst (clz K0).2 = _; omega, j3⟩
    · rw [if_neg h1, if_neg h1]
      refine ⟨fun hc => by omega, fun hc => ⟨rfl, ?_, fun m hm => ?_⟩⟩
      · show (n - 1) + cst K0 - 1 = _
        omega
      · rcases List.mem_cons.mp hm with rfl | hm
        · omega
        · exact hK m hm
theorem goT_cons (s : Int) (t : List Int) (K : List Nat) : goT (s :: t) K = ch1 s :: (if 0 < ar s then 40 :: goT t (ar s :: K) else (clz K).1 ++ goT t (clz K).2) := by
  conv => lhs; unfold goT
theorem goT_app : ∀ (v rest : List Int) (K0 K : List Nat), (∀ n ∈ K0, 1 ≤ n) → Ts (cst K0) v → goT (v ++ rest) (K0 ++ K) = goT v K0 ++ ((clz K).1 ++ goT rest (clz K).2)
  | [], rest, K0, K, h, hT => by
    rw [Ts_nil] at hT
    have := cst_pos h
    omega
  | s :: t, rest, K0, K, h, hT => by
    have c0 := cst_pos h
    obtain ⟨m, hm, hT'⟩ := Ts_cons hT
    rw [List.cons_append, goT_cons, goT_cons]
    by_cases ha : 0 < ar s
    · rw [if_pos ha, if_pos ha]
      have ih := goT_app t rest (ar s :: K0) K (fun n hn => by
        rcases List.mem_cons.mp hn with rfl | hn
        · exact ha
        · exact h n hn) (by
        show Ts (ar s + cst K0 - 1) t
        rw [show ar s + cst K0 - 1 = m + ar s by omega]
        exact hT')
      rw [List.cons_append] at ih
      rw [ih]
      rfl
    · rw [if_neg ha, if_neg ha]
      have ha0 : ar s = 0 := by omega
      rw [ha0, Nat.add_zero] at hT'
      obtain ⟨i1, i2⟩ := clz_app (K := K) h
      by_cases hc : cst K0 = 1
      · obtain ⟨j1, j2⟩ := i1 hc
        have hm0 : m = 0 := by omega
        rw [hm0] at hT'
        have ht := Ts_zero hT'
        subst ht
        rw [j1, j2]
        show ch1 s :: (((clz K0).1 ++ (clz K).1) ++ goT rest (clz K).2) = (ch1 s :: ((clz K0).1 ++ [])) ++ _
        rw [List.append_nil, List.append_assoc]
        rfl
      · obtain ⟨j1, j2, j3⟩ := i2 hc
        rw [j1]
        have ih := goT_app t rest (clz K0).2 K j3 (by rw [j2, hm, Nat.add_sub_cancel]; exact hT')
        rw [ih]
        simp
theorem goT_args {u v : List Int} {r : Nat} (hu : Ts 1 u) (hv : Ts r v) : goT (u ++ v) [r + 1] = goT u [] ++ (if r = 0 then [41] else 44 :: goT v [r]) := by
  have := goT_app u v [] [r + 1] (fun n hn => by cases hn) hu
  rw [List.nil_append] at this
  rw [this]
  congr 1
  by_cases h : r = 0
  · subst h
    have ht := Ts_zero hv
    subst ht
    rfl
  · rw [if_neg h]
    have e : clz [r + 1] = ([44], [r]) := by
      unfold clz
      rw [if_neg (by omega)]
      rfl
    rw [e]
    rfl
theorem chU : ∀ n : Fin 128, ((iZ ((n : Nat) : Int)).toUInt32 % 65536).toInt32 = iZ ((n : Nat) : Int) := by decide
theorem chU_c {c : Int} (h0 : 0 ≤ c) (h1 : c < 128) : ((iZ c).toUInt32 % 65536).toInt32 = iZ c := by
  have := chU ⟨c.toNat, by omega⟩
  rw [show (((⟨c.toNat, by omega⟩ : Fin 128) : Nat) : Int) = c by show ((c.toNat : Nat) : Int) = c; omega] at this
  exact this
theorem nrC : ∀ n : Fin 128, narrow .char (.int (iZ ((n : Nat) : Int))) = .int (iZ ((n : Nat) : Int)) := by decide
theorem nrC_c {c : Int} (h0 : 0 ≤ c) (h1 : c < 128) : narrow .char (.int (iZ c)) = .int (iZ c) := by
  have := nrC ⟨c.toNat, by omega⟩
  rw [show (((⟨c.toNat, by omega⟩ : Fin 128) : Nat) : Int) = c by show ((c.toNat : Nat) : Int) = c; omega] at this
  exact this
theorem ch1_rng {s : Int} (h : 0 ≤ s ∧ s < 204 ∧ (s < 99 → s < 26)) : 0 ≤ ch1 s ∧ ch1 s < 128 := by
  unfold ch1
  split
  · omega
  · split <;> omega
theorem m6 (d : Nat) (w : Nat → xC) (N : Nat) (s : Int) (h : 0 ≤ s ∧ s < 204 ∧ (s < 99 → s < 26)) (h9 : s ≠ 99) : Xc (d + 2) 6 [.int (iZ (vc s))] (hp w N) (some (.int (iZ (ch1 s))), hp w N) := by
  have hsv : sgV s := ⟨h.1, h.2.1, fun z => by have := h.2.2 z; omega⟩
  have vr := vc_rng hsv
  have cr := ch1_rng h
  have c1_ := chU_c cr.1 cr.2
  have c2_ := nrC_c cr.1 cr.2
  have X2 := m2 d w N (vc s) (by omega) (by omega)
  obtain ⟨y, hy⟩ : ∃ y, y = vc s := ⟨_, rfl⟩
  obtain ⟨c, hc_⟩ : ∃ c, c = ch1 s := ⟨_, rfl⟩
  rw [← hc_] at c1_ c2_
  by_cases hv : s < 99
  · have ev : vc s = 128 + 4 * s := by unfold vc; rw [if_pos hv]
    have ec : ch1 s = 65 + s := by unfold ch1; rw [if_pos hv]
    have X3 := m3 d w N (vc s) (by omega) (by omega)
    rw [show (vc s - 128) / 4 = s by omega] at X3
    rw [decide_eq_true (by omega), bZ_t] at X2
    rw [← hy] at X2 X3 ⊢
    rw [← hc_]
    have e : 65 + s = c := by omega
    refine Xc.of rfl (by simp [lg_sl, Value.category]) ?_ (x_le.rf)
    have hc : c1 (lv_args 0 [.int (iZ y)]) := by simp [c1, lv_args, Value.category]
    have l0 : x_lk (lv_args 0 [.int (iZ y)]) 0 = some (.int (iZ y)) := rfl
    generalize lv_args 0 [.int (iZ y)] = lv at hc l0
    refine Gx.fin 30 (X2.and X3) (fun K mm => ?_)
    obtain ⟨mm1, mm2⟩ := mm
    simp (disch := first | (refine c1_id ?_; assumption) | (refine c1_st rfl ?_; repeat (first | assumption | refine c1_st rfl ?_)) | omega) [nx_l, nx_r, nx_n, x_st, x_push, x_bin, x_div, x_un, x_dup, x_pop, x_dup2, x_goto, x_ifeq, x_ifne, x_iflt, x_ifge, x_ifgt, x_ifle, x_iceq, x_icne, x_iclt, x_icge, x_icgt, x_icle, x_ifnull, x_ifnonnull, x_ldi, x_lda, x_sti, x_sta, x_iinc, x_gf, x_pf, x_ald, x_ast, x_aln, x_len, x_cl_, x_cv, x_cs, x_rc, x_r0, x_isT, x_oi, x_rv, x_ri, x_ra, Value.category, t6_0, t6_1, t6_4, t6_7, t6_9, t6_10, t6_13, t6_14, t6_17, t6_19, t6_20, t6_23, t6_24, t6_25, lk_s, hp_get, hp_set, uH_at, uH_ne, uH_upd, uH_swap, iZ_add, iZ_sub, iZ_mul, iZ_neg, iZ_lt, iZ_le, iZ_eq, iZ_div, iZ_of, ix_Z, gZ_map, gZ_mapI, gZ_map', le_0, le_s, sZ_map, sZ_len, bZ_0, bZ_inj, bZ_t, bZ_f, nr_i, nr_0, nr_1, nr_b, ft_i, ft_b, ft_0, ft_1, zl_0, zl_1, zl_65, zl_97, l0, mm1, mm2, e, c1_, c2_, -List.filter_filter, -List.getElem?_map, -List.getD_eq_getElem?_getD]
  · have ev : vc s = s - 100 := by unfold vc; rw [if_neg hv, if_neg h9]
    have ec : ch1 s = 97 + (s - 100) / 4 := by unfold ch1; rw [if_neg hv, if_neg h9]
    have X4 := m4 d w N (vc s) (by omega) (by omega)
    rw [decide_eq_false (by omega), bZ_f] at X2
    obtain ⟨q, hq⟩ : ∃ q, q = vc s / 4 := ⟨_, rfl⟩
    rw [← hq] at X4
    rw [← hy] at X2 X4 ⊢
    rw [← hc_]
    have e : 97 + q = c := by rw [hc_, ec, hq, ev]
    refine Xc.of rfl (by simp [lg_sl, Value.category]) ?_ (x_le.rf)
    have hc : c1 (lv_args 0 [.int (iZ y)]) := by simp [c1, lv_args, Value.category]
    have l0 : x_lk (lv_args 0 [.int (iZ y)]) 0 = some (.int (iZ y)) := rfl
    generalize lv_args 0 [.int (iZ y)] = lv at hc l0
    refine Gx.fin 30 (X2.and X4) (fun K mm => ?_)
    obtain ⟨mm1, mm2⟩ := mm
    simp (disch := first | (refine c1_id ?_; assumption) | (refine c1_st rfl ?_; repeat (first | assumption | refine c1_st rfl ?_)) | omega) [nx_l, nx_r, nx_n, x_st, x_push, x_bin, x_div, x_un, x_dup, x_pop, x_dup2, x_goto, x_ifeq, x_ifne, x_iflt, x_ifge, x_ifgt, x_ifle, x_iceq, x_icne, x_iclt, x_icge, x_icgt, x_icle, x_ifnull, x_ifnonnull, x_ldi, x_lda, x_sti, x_sta, x_iinc, x_gf, x_pf, x_ald, x_ast, x_aln, x_len, x_cl_, x_cv, x_cs, x_rc, x_r0, x_isT, x_oi, x_rv, x_ri, x_ra, Value.category, t6_0, t6_1, t6_4, t6_7, t6_9, t6_10, t6_13, t6_14, t6_17, t6_19, t6_20, t6_23, t6_24, t6_25, lk_s, hp_get, hp_set, uH_at, uH_ne, uH_upd, uH_swap, iZ_add, iZ_sub, iZ_mul, iZ_neg, iZ_lt, iZ_le, iZ_eq, iZ_div, iZ_of, ix_Z, gZ_map, gZ_mapI, gZ_map', le_0, le_s, sZ_map, sZ_len, bZ_0, bZ_inj, bZ_t, bZ_f, nr_i, nr_0, nr_1, nr_b, ft_i, ft_b, ft_0, ft_1, zl_0, zl_1, zl_65, zl_97, l0, mm1, mm2, e, c1_, c2_, -List.filter_filter, -List.getElem?_map, -List.getD_eq_getElem?_getD]
/-- from one text of the builder to a longer one -/
def TB (w : Nat → xC) (N sb : Nat) (L : List Int) (w' : Nat → xC) (N' : Nat) (L' : List Int) : Prop := N ≤ N' ∧ L.length ≤ L'.length ∧ N' ≤ N + (L'.length - L.length) ∧ SB w' N' sb L' ∧ (∀ j, j < sb → w' j = w j) ∧ (∀ j, sb < j → j < N' → (j < N ∧ x_c1 (w' j) ≤ x_c1 (w j)) ∨ x_c1 (w' j) ≤ 400) ∧ x_le (hp w N) (hp w' N')
theorem x_le.trn {a b c : xH} (h : x_le a b) (g : x_le b c) : x_le a c := ⟨Nat.le_trans h.1 g.1, Nat.le_trans h.2 g.2⟩
theorem TB.rf {w : Nat → xC} {N sb : Nat} {L : List Int} (h : SB w N sb L) : TB w N sb L w N L := ⟨Nat.le_refl _, Nat.le_refl _, by omega, h, fun _ _ => rfl, fun j _ hj => Or.inl ⟨hj, Nat.le_refl _⟩, x_le.rf⟩
theorem TB.tr {w w' w'' : Nat → xC} {N N' N'' sb : Nat} {L L' L'' : List Int} (h : TB w N sb L w' N' L') (g : TB w' N' sb L' w'' N'' L'') : TB w N sb L w'' N'' L'' := by
  obtain ⟨h1, h2, h3, h4, h5, h6, h7⟩ := h
  obtain ⟨g1, g2, g3, g4, g5, g6, g7⟩ := g
  refine ⟨by omega, by omega, by omega, g4, fun j hj => (g5 j hj).trans (h5 j hj), fun j j0 j1 => ?_, h7.trn g7⟩
  rcases g6 j j0 j1 with ⟨a1, a2⟩ | a
  · rcases h6 j j0 a1 with ⟨b1, b2⟩ | b
    · exact Or.inl ⟨b1, Nat.le_trans a2 b2⟩
    · exact Or.inr (Nat.le_trans a2 b)
  · exact Or.inr a
theorem SB.put {w : Nat → xC} {N sb : Nat} {L : List Int} (h : SB w N sb L) (d : Nat) (l9 : L.length ≤ 191) (c : Int) (c0 : 0 ≤ c) (c9 : c < 128) : ∃ (w' : Nat → xC) (N' : Nat), TB w N sb L w' N' (L ++ [c]) ∧ Xc (d + 5) 159 [.ref (sb + 3), .int (iZ c)] (hp w N) (some (.ref (sb + 3)), hp w' N') := by
  obtain ⟨w', N', i1, i2, i3, i4, i5, i6, i7⟩ := m159 d h (by omega) c c0 c9
  refine ⟨w', N', ⟨i1, by simp, by simp; omega, i3, i4, fun j j0 j1 => ?_, i6⟩, i7⟩
  rcases i5 j j0 j1 with a | a
  · exact Or.inl a
  · exact Or.inr (by omega)
