/-! the class: a clause's letters are entered, allowed, kept -/
theorem f36_0 : x_fetch q_k36 0 = x_lda 1 0 := rfl
theorem t36_0 (C : xF) (s n : Nat) (z : xS) : x_to q_k36 C s (n + 1) 0 z = x_nx q_k36 C s n ((x_lda 1 0) C z) := x_to_at f36_0 C s n z
theorem f36_1 : x_fetch q_k36 1 = x_gf 4 7 0 := rfl
theorem t36_1 (C : xF) (s n : Nat) (z : xS) : x_to q_k36 C s (n + 1) 1 z = x_nx q_k36 C s n ((x_gf 4 7 0) C z) := x_to_at f36_1 C s n z
theorem f36_4 : x_fetch q_k36 4 = x_st (x_push 5 (.int (0))) := rfl
theorem t36_4 (C : xF) (s n : Nat) (z : xS) : x_to q_k36 C s (n + 1) 4 z = x_nx q_k36 C s n ((x_st (x_push 5 (.int (0)))) C z) := x_to_at f36_4 C s n z
theorem f36_5 : x_fetch q_k36 5 = x_lda 6 0 := rfl
theorem t36_5 (C : xF) (s n : Nat) (z : xS) : x_to q_k36 C s (n + 1) 5 z = x_nx q_k36 C s n ((x_lda 6 0) C z) := x_to_at f36_5 C s n z
theorem f36_6 : x_fetch q_k36 6 = x_gf 9 7 1 := rfl
theorem t36_6 (C : xF) (s n : Nat) (z : xS) : x_to q_k36 C s (n + 1) 6 z = x_nx q_k36 C s n ((x_gf 9 7 1) C z) := x_to_at f36_6 C s n z
theorem f36_9 : x_fetch q_k36 9 = x_st (x_push 10 (.int (0))) := rfl
theorem t36_9 (C : xF) (s n : Nat) (z : xS) : x_to q_k36 C s (n + 1) 9 z = x_nx q_k36 C s n ((x_st (x_push 10 (.int (0)))) C z) := x_to_at f36_9 C s n z
theorem f36_10 : x_fetch q_k36 10 = x_st (x_push 12 (.int (26))) := rfl
theorem t36_10 (C : xF) (s n : Nat) (z : xS) : x_to q_k36 C s (n + 1) 10 z = x_nx q_k36 C s n ((x_st (x_push 12 (.int (26)))) C z) := x_to_at f36_10 C s n z
theorem f36_12 : x_fetch q_k36 12 = x_acp 15 0 := rfl
theorem t36_12 (C : xF) (s n : Nat) (z : xS) : x_to q_k36 C s (n + 1) 12 z = x_nx q_k36 C s n ((x_acp 15 0) C z) := x_to_at f36_12 C s n z
theorem f36_15 : x_fetch q_k36 15 = x_lda 16 1 := rfl
theorem t36_15 (C : xF) (s n : Nat) (z : xS) : x_to q_k36 C s (n + 1) 15 z = x_nx q_k36 C s n ((x_lda 16 1) C z) := x_to_at f36_15 C s n z
theorem f36_16 : x_fetch q_k36 16 = x_lda 17 0 := rfl
theorem t36_16 (C : xF) (s n : Nat) (z : xS) : x_to q_k36 C s (n + 1) 16 z = x_nx q_k36 C s n ((x_lda 17 0) C z) := x_to_at f36_16 C s n z
theorem f36_17 : x_fetch q_k36 17 = x_gf 20 7 1 := rfl
theorem t36_17 (C : xF) (s n : Nat) (z : xS) : x_to q_k36 C s (n + 1) 17 z = x_nx q_k36 C s n ((x_gf 20 7 1) C z) := x_to_at f36_17 C s n z
theorem f36_20 : x_fetch q_k36 20 = x_cl_ 23 38 2 := rfl
theorem t36_20 (C : xF) (s n : Nat) (z : xS) : x_to q_k36 C s (n + 1) 20 z = x_nx q_k36 C s n ((x_cl_ 23 38 2) C z) := x_to_at f36_20 C s n z
theorem f36_23 : x_fetch q_k36 23 = x_ri (.boolean) := rfl
theorem t36_23 (C : xF) (s n : Nat) (z : xS) : x_to q_k36 C s (n + 1) 23 z = x_nx q_k36 C s n ((x_ri (.boolean)) C z) := x_to_at f36_23 C s n z
theorem f37_0 : x_fetch q_k37 0 = x_lda 1 1 := rfl
theorem t37_0 (C : xF) (s n : Nat) (z : xS) : x_to q_k37 C s (n + 1) 0 z = x_nx q_k37 C s n ((x_lda 1 1) C z) := x_to_at f37_0 C s n z
theorem f37_1 : x_fetch q_k37 1 = x_lda 2 0 := rfl
theorem t37_1 (C : xF) (s n : Nat) (z : xS) : x_to q_k37 C s (n + 1) 1 z = x_nx q_k37 C s n ((x_lda 2 0) C z) := x_to_at f37_1 C s n z
theorem f37_2 : x_fetch q_k37 2 = x_gf 5 7 0 := rfl
theorem t37_2 (C : xF) (s n : Nat) (z : xS) : x_to q_k37 C s (n + 1) 2 z = x_nx q_k37 C s n ((x_gf 5 7 0) C z) := x_to_at f37_2 C s n z
theorem f37_5 : x_fetch q_k37 5 = x_cl_ 8 38 2 := rfl
theorem t37_5 (C : xF) (s n : Nat) (z : xS) : x_to q_k37 C s (n + 1) 5 z = x_nx q_k37 C s n ((x_cl_ 8 38 2) C z) := x_to_at f37_5 C s n z
theorem f37_8 : x_fetch q_k37 8 = x_st (x_pop 9) := rfl
theorem t37_8 (C : xF) (s n : Nat) (z : xS) : x_to q_k37 C s (n + 1) 8 z = x_nx q_k37 C s n ((x_st (x_pop 9)) C z) := x_to_at f37_8 C s n z
theorem f37_9 : x_fetch q_k37 9 = x_rv := rfl
theorem t37_9 (C : xF) (s n : Nat) (z : xS) : x_to q_k37 C s (n + 1) 9 z = x_nx q_k37 C s n ((x_rv) C z) := x_to_at f37_9 C s n z
theorem ntL_uk : ∀ {t : List Int} {z : List Int × Bool}, UOK z.1 → UOK (ntL t z).1
  | [], _, h => h
  | s :: t, _, h => ntL_uk (t := t) (nt1_ok h (by decide) (by decide))
theorem ntA_uk {t : List Int} {z : List Int × Bool} (h : UOK z.1) : UOK (ntA t z).1 := by
  cases t with
  | nil => exact h
  | cons s t => exact ntL_uk (nt1_ok h (by decide) (by decide))
theorem ntC_uk : ∀ {l : List (Int × List Int)} {z : List Int × Bool}, UOK z.1 → UOK (ntC l z).1
  | [], _, h => h
  | y :: l, _, h => ntC_uk (l := l) (ntA_uk h)
theorem pairF {z : List Int × Bool} (h : z.2 = false) : z = (z.1, false) := by
  obtain ⟨a, b⟩ := z
  cases h
  rfl
def ntI (i : Nat) (t : List Int) (z : List Int × Bool) : List Int × Bool := if i = 0 then ntA t z else ntL t z
theorem ntI_nil (i : Nat) (z : List Int × Bool) : ntI i [] z = z := by
  unfold ntI
  split <;> rfl
theorem ntI_cons (i : Nat) (s : Int) (t : List Int) (z : List Int × Bool) : ntI i (s :: t) z = ntL t (nt1 (if i = 0 then 5 else 1) s z) := by
  unfold ntI
  split <;> rfl
section UT
variable {w : Nat → xC} {N a u : Nat} {S E B : List Int} {o : Int} {C : List (Int × List Int)}
theorem l38i (d : Nat) {c l : Int} (hf : fo w a S E B c l o) (hN : fN N a S E B) (hu : u < a ∨ a + 3 < u) (hun : u < N) (hW : FW C S E B) (hg : gV C) (lS : (flt C).length ≤ S.length) (lE : C.length ≤ E.length) (k : Nat) (hk : k < C.length) :
    ∀ (t : List Int) (i : Nat) (V : List Int) (lv : xL), (lC C k).2.drop i = t → i + t.length = (lC C k).2.length → UOK V → c1 lv → x_lk lv 0 = some (.ref (a + 3)) → x_lk lv 1 = some (.ref (u + 3)) → x_lk lv 2 = some (.int (iZ (k : Int))) → x_lk lv 3 = some (.int (iZ (stC C k : Int))) → x_lk lv 4 = some (.int (iZ ((stC C k : Int) + i))) →
    ((ntI i t (V, false)).2 = false → ∃ lv', c1 lv' ∧ x_lk lv' 0 = some (.ref (a + 3)) ∧ x_lk lv' 1 = some (.ref (u + 3)) ∧ x_lk lv' 2 = some (.int (iZ (k : Int))) ∧ ∀ res, Gx q_k38 (d + 1) 111 (lv', [], hp (uH w u (cI 0 (ntI i t (V, false)).1)) N) res → Gx q_k38 (d + 1) 19 (lv, [], hp (uH w u (cI 0 V)) N) res) ∧
    ((ntI i t (V, false)).2 = true → ∃ V', UOK V' ∧ Gx q_k38 (d + 1) 19 (lv, [], hp (uH w u (cI 0 V)) N) (some (.int (iZ 0)), hp (uH w u (cI 0 V')) N)) := by
  have sk := stC_succ hk
  have mk := stC_mono (C := C) (show k + 1 ≤ C.length from hk)
  rw [stC_all] at mk
  have ek := hW.2.1 k hk
  have hn := hN.1
  have ls := hN.2.1
  have le := hN.2.2.1
  intro t
  induction t with
  | nil =>
    intro i V lv ht hi hV hc l0 l1 l2 l3 l4
    rw [ntI_nil]
    refine ⟨fun _ => ⟨lv, hc, l0, l1, l2, fun res hres => ?_⟩, fun z => by cases z⟩
    obtain ⟨fa, fs, fe, fg⟩ := hf.upO (x := cI 0 V) hu
    obtain ⟨w1, hw1⟩ : ∃ w1, w1 = uH w u (cI 0 V) := ⟨_, rfl⟩
    rw [← hw1] at fa fs fe hres ⊢
    simp only [List.length_nil] at hi
    obtain ⟨at_, hat⟩ : ∃ at_ : Int, at_ = (stC C k : Int) + i := ⟨_, rfl⟩
    rw [← hat] at l4
    obtain ⟨en, hen⟩ : ∃ en : Int, en = (stC C (k + 1) : Int) := ⟨_, rfl⟩
    rw [← hen] at ek
    obtain ⟨kk, hkk⟩ : ∃ kk : Int, kk = (k : Int) := ⟨_, rfl⟩
    rw [← hkk] at ek l2
    have b1 : en ≤ at_ := by omega
    have a0 : 0 ≤ at_ := by omega
    have a9 : at_ < 10000 := by omega
    have en9 : 0 ≤ en := by omega
    have k0 : 0 ≤ kk := by omega
    have k1 : kk < E.length := by omega
    refine Gx.run 20 Cs.tt (fun X _ => ?_) hres
    simp (disch := first | (refine c1_id ?_; assumption) | (refine c1_st rfl ?_; repeat (first | assumption | refine c1_st rfl ?_)) | omega) [nx_l, nx_r, nx_n, x_st, x_push, x_bin, x_div, x_un, x_dup, x_pop, x_dup2, x_goto, x_ifeq, x_ifne, x_iflt, x_ifge, x_ifgt, x_ifle, x_iceq, x_icne, x_iclt, x_icge, x_icgt, x_icle, x_ifnull, x_ifnonnull, x_ldi, x_lda, x_sti, x_sta, x_iinc, x_gf, x_pf, x_ald, x_ast, x_aln, x_len, x_cl_, x_cv, x_cs, x_rc, x_r0, x_isT, x_oi, x_rv, x_ri, x_ra, Value.category, t38_0, t38_1, t38_2, t38_3, t38_4, t38_7, t38_10, t38_11, t38_12, t38_15, t38_16, t38_17, t38_19, t38_21, t38_22, t38_25, t38_26, t38_27, t38_30, t38_31, t38_34, t38_36, t38_37, t38_39, t38_41, t38_44, t38_46, t38_47, t38_49, t38_52, t38_53, t38_55, t38_56, t38_59, t38_60, t38_63, t38_64, t38_65, t38_67, t38_69, t38_71, t38_74, t38_75, t38_77, t38_78, t38_81, t38_82, t38_84, t38_85, t38_87, t38_90, t38_91, t38_92, t38_94, t38_96, t38_99, t38_100, t38_102, t38_104, t38_105, t38_108, t38_111, t38_114, t38_117, t38_118, lk_s, hp_get, hp_set, uH_at, uH_ne, uH_upd, uH_swap, iZ_add, iZ_sub, iZ_mul, iZ_neg, iZ_lt, iZ_le, iZ_eq, iZ_div, iZ_of, ix_Z, gZ_map, gZ_mapI, gZ_map', le_0, le_s, sZ_map, sZ_len, bZ_0, bZ_inj, bZ_t, bZ_f, nr_i, nr_0, nr_1, nr_b, ft_i, ft_b, ft_0, ft_1, zl_0, zl_1, zl_4, zl_26, l0, l2, l4, fa, fe, ek, b1, -List.filter_filter, -List.getElem?_map, -List.getD_eq_getElem?_getD]
  | cons s t ih =>
    intro i V lv ht hi hV hc l0 l1 l2 l3 l4
    simp only [List.length_cons] at hi
    have hi2 : i < (lC C k).2.length := by omega
    rw [drop_gt hi2] at ht
    injection ht with ht1 ht2
    have es := hW.at hk hi2
    rw [ht1] at es
    have hs : sgV s := by
      rw [← ht1]
      exact (hg _ (lC_mem hk)).2 _ (getD_mem hi2)
    have hh : ((stC C k : Int) + i = (stC C k : Int) ∧ (if i = 0 then (5 : Int) else 1) = 5) ∨ ((stC C k : Int) + i ≠ (stC C k : Int) ∧ (if i = 0 then (5 : Int) else 1) = 1) := by
      by_cases e : i = 0
      · left
        rw [if_pos e]
        omega
      · right
        rw [if_neg e]
        omega
    obtain ⟨q1, q2⟩ := S38 (N := N) (c := c) (l := l) (o := o) d hf hN hu hun (k : Int) (stC C k : Int) ((stC C k : Int) + i) (stC C (k + 1) : Int) s (if i = 0 then 5 else 1) (by omega) (by omega) ek (by omega) (by omega) (by omega) (by omega) (by omega) (by omega) es hs hh V hV lv hc l0 l1 l2 l3 l4
    rw [ntI_cons]
    cases hz : (nt1 (if i = 0 then 5 else 1) s (V, false)).2 with
    | false =>
      obtain ⟨lv', c', j0, j1, j2, j3, j4, g⟩ := q1 hz
      have hV' : UOK (nt1 (if i = 0 then 5 else 1) s (V, false)).1 := nt1_ok hV (by split <;> decide) (by split <;> decide)
      have ez : nt1 (if i = 0 then 5 else 1) s (V, false) = ((nt1 (if i = 0 then 5 else 1) s (V, false)).1, false) := pairF hz
      have en : ntL t (nt1 (if i = 0 then 5 else 1) s (V, false)) = ntI (i + 1) t ((nt1 (if i = 0 then 5 else 1) s (V, false)).1, false) := by
        rw [← ez]
        unfold ntI
        exact (if_neg (Nat.succ_ne_zero i)).symm
      obtain ⟨r1, r2⟩ := ih (i + 1) _ lv' ht2 (by omega) hV' c' j0 j1 j2 j3 (by rw [j4, show (stC C k : Int) + (i : Int) + 1 = (stC C k : Int) + ((i + 1 : Nat) : Int) by omega])
      rw [en]
      refine ⟨fun z => ?_, fun z => ?_⟩
      · obtain ⟨lv2, d1, d2, d3, d4, d5⟩ := r1 z
        exact ⟨lv2, d1, d2, d3, d4, fun res hres => g _ (d5 _ hres)⟩
      · obtain ⟨V2, d1, d2⟩ := r2 z
        exact ⟨V2, d1, g _ d2⟩
    | true =>
      have e2 := ntL_t (t := t) hz
      refine ⟨fun z => ?_, fun _ => ⟨V, hV, q2 hz⟩⟩
      rw [e2] at z
      cases z
theorem l38 (d : Nat) {l : Int} (hf : fo w a S E B C.length l o) (hN : fN N a S E B) (hu : u < a ∨ a + 3 < u) (hun : u < N) (hW : FW C S E B) (hg : gV C) (lS : (flt C).length ≤ S.length) (lE : C.length ≤ E.length) :
    ∀ (r k : Nat) (V : List Int) (lv : xL), k + r = C.length → UOK V → c1 lv → x_lk lv 0 = some (.ref (a + 3)) → x_lk lv 1 = some (.ref (u + 3)) → x_lk lv 2 = some (.int (iZ (k : Int))) →
    ((ntC (C.drop k) (V, false)).2 = false → Gx q_k38 (d + 1) 2 (lv, [], hp (uH w u (cI 0 V)) N) (some (.int (iZ 1)), hp (uH w u (cI 0 (ntC (C.drop k) (V, false)).1)) N)) ∧
    ((ntC (C.drop k) (V, false)).2 = true → ∃ V', UOK V' ∧ Gx q_k38 (d + 1) 2 (lv, [], hp (uH w u (cI 0 V)) N) (some (.int (iZ 0)), hp (uH w u (cI 0 V')) N)) := by
  have hn := hN.1
  have ls := hN.2.1
  have le := hN.2.2.1
  intro r
  induction r with
  | zero =>
    intro k V lv hk hV hc l0 l1 l2
    rw [List.drop_eq_nil_of_le (by omega)]
    refine ⟨fun _ => ?_, fun z => by cases z⟩
    show Gx q_k38 (d + 1) 2 _ (_, hp (uH w u (cI 0 V)) N)
    obtain ⟨fa, fs, fe, fg⟩ := hf.upO (x := cI 0 V) hu
    obtain ⟨w1, hw1⟩ : ∃ w1, w1 = uH w u (cI 0 V) := ⟨_, rfl⟩
    rw [← hw1] at fa ⊢
    obtain ⟨kk, hkk⟩ : ∃ kk : Int, kk = (k : Int) := ⟨_, rfl⟩
    rw [← hkk] at l2
    obtain ⟨n, hnn⟩ : ∃ n : Int, n = (C.length : Int) := ⟨_, rfl⟩
    rw [← hnn] at fa
    have b1 : n ≤ kk := by omega
    have k0 : 0 ≤ kk := by omega
    have k9 : kk < 10000 := by omega
    have n0 : 0 ≤ n := by omega
    refine Gx.fin 20 Cs.tt (fun X _ => ?_)
    simp (disch := first | (refine c1_id ?_; assumption) | (refine c1_st rfl ?_; repeat (first | assumption | refine c1_st rfl ?_)) | omega) [nx_l, nx_r, nx_n, x_st, x_push, x_bin, x_div, x_un, x_dup, x_pop, x_dup2, x_goto, x_ifeq, x_ifne, x_iflt, x_ifge, x_ifgt, x_ifle, x_iceq, x_icne, x_iclt, x_icge, x_icgt, x_icle, x_ifnull, x_ifnonnull, x_ldi, x_lda, x_sti, x_sta, x_iinc, x_gf, x_pf, x_ald, x_ast, x_aln, x_len, x_cl_, x_cv, x_cs, x_rc, x_r0, x_isT, x_oi, x_rv, x_ri, x_ra, Value.category, t38_0, t38_1, t38_2, t38_3, t38_4, t38_7, t38_10, t38_11, t38_12, t38_15, t38_16, t38_17, t38_19, t38_21, t38_22, t38_25, t38_26, t38_27, t38_30, t38_31, t38_34, t38_36, t38_37, t38_39, t38_41, t38_44, t38_46, t38_47, t38_49, t38_52, t38_53, t38_55, t38_56, t38_59, t38_60, t38_63, t38_64, t38_65, t38_67, t38_69, t38_71, t38_74, t38_75, t38_77, t38_78, t38_81, t38_82, t38_84, t38_85, t38_87, t38_90, t38_91, t38_92, t38_94, t38_96, t38_99, t38_100, t38_102, t38_104, t38_105, t38_108, t38_111, t38_114, t38_117, t38_118, lk_s, hp_get, hp_set, uH_at, uH_ne, uH_upd, uH_swap, iZ_add, iZ_sub, iZ_mul, iZ_neg, iZ_lt, iZ_le, iZ_eq, iZ_div, iZ_of, ix_Z, gZ_map, gZ_mapI, gZ_map', le_0, le_s, sZ_map, sZ_len, bZ_0, bZ_inj, bZ_t, bZ_f, nr_i, nr_0, nr_1, nr_b, ft_i, ft_b, ft_0, ft_1, zl_0, zl_1, zl_4, zl_26, l0, l2, fa, b1, -List.filter_filter, -List.getElem?_map, -List.getD_eq_getElem?_getD]
  | succ r ih =>
    intro k V lv hk hV hc l0 l1 l2
    have hkC : k < C.length := by omega
    rw [drop_lC hkC]
    show ((ntC (C.drop (k + 1)) (ntA (lC C k).2 (V, false))).2 = false → Gx q_k38 (d + 1) 2 _ (_, hp (uH w u (cI 0 (ntC (C.drop (k + 1)) (ntA (lC C k).2 (V, false))).1)) N)) ∧ ((ntC (C.drop (k + 1)) (ntA (lC C k).2 (V, false))).2 = true → _)
    have X11 := m11 d (k : Int) (hf.upO (x := cI 0 V) hu) hN (by omega) (by omega)
    rw [hW.st (by omega)] at X11
    have C3 := c1_st (i := 3) (v := .int (iZ (stC C k : Int))) rfl hc
    have C4 := c1_st (i := 4) (v := .int (iZ (stC C k : Int))) rfl C3
    have g19 : ∀ res, Gx q_k38 (d + 1) 19 ((4, .int (iZ (stC C k : Int))) :: List.filter (x_keep 4) ((3, .int (iZ (stC C k : Int))) :: lv.filter (x_keep 3)), [], hp (uH w u (cI 0 V)) N) res → Gx q_k38 (d + 1) 2 (lv, [], hp (uH w u (cI 0 V)) N) res := fun res hres => by
      obtain ⟨fa, fs, fe, fg⟩ := hf.upO (x := cI 0 V) hu
      obtain ⟨w1, hw1⟩ : ∃ w1, w1 = uH w u (cI 0 V) := ⟨_, rfl⟩
      rw [← hw1] at fa X11 hres ⊢
      obtain ⟨kk, hkk⟩ : ∃ kk : Int, kk = (k : Int) := ⟨_, rfl⟩
      rw [← hkk] at l2 X11
      obtain ⟨n, hnn⟩ : ∃ n : Int, n = (C.length : Int) := ⟨_, rfl⟩
      rw [← hnn] at fa
      have b1 : ¬ n ≤ kk := by omega
      have k0 : 0 ≤ kk := by omega
      have k9 : n < 10000 := by omega
      refine Gx.run 20 X11 (fun X mm => ?_) hres
      simp (disch := first | (refine c1_id ?_; assumption) | (refine c1_st rfl ?_; repeat (first | assumption | refine c1_st rfl ?_)) | omega) [nx_l, nx_r, nx_n, x_st, x_push, x_bin, x_div, x_un, x_dup, x_pop, x_dup2, x_goto, x_ifeq, x_ifne, x_iflt, x_ifge, x_ifgt, x_ifle, x_iceq, x_icne, x_iclt, x_icge, x_icgt, x_icle, x_ifnull, x_ifnonnull, x_ldi, x_lda, x_sti, x_sta, x_iinc, x_gf, x_pf, x_ald, x_ast, x_aln, x_len, x_cl_, x_cv, x_cs, x_rc, x_r0, x_isT, x_oi, x_rv, x_ri, x_ra, Value.category, t38_0, t38_1, t38_2, t38_3, t38_4, t38_7, t38_10, t38_11, t38_12, t38_15, t38_16, t38_17, t38_19, t38_21, t38_22, t38_25, t38_26, t38_27, t38_30, t38_31, t38_34, t38_36, t38_37, t38_39, t38_41, t38_44, t38_46, t38_47, t38_49, t38_52, t38_53, t38_55, t38_56, t38_59, t38_60, t38_63, t38_64, t38_65, t38_67, t38_69, t38_71, t38_74, t38_75, t38_77, t38_78, t38_81, t38_82, t38_84, t38_85, t38_87, t38_90, t38_91, t38_92, t38_94, t38_96, t38_99, t38_100, t38_102, t38_104, t38_105, t38_108, t38_111, t38_114, t38_117, t38_118, lk_s, hp_get, hp_set, uH_at, uH_ne, uH_upd, uH_swap, iZ_add, iZ_sub, iZ_mul, iZ_neg, iZ_lt, iZ_le, iZ_eq, iZ_div, iZ_of, ix_Z, gZ_map, gZ_mapI, gZ_map', le_0, le_s, sZ_map, sZ_len, bZ_0, bZ_inj, bZ_t, bZ_f, nr_i, nr_0, nr_1, nr_b, ft_i, ft_b, ft_0, ft_1, zl_0, zl_1, zl_4, zl_26, l0, l2, fa, b1, mm, -List.filter_filter, -List.getElem?_map, -List.getD_eq_getElem?_getD]
    obtain ⟨q1, q2⟩ := l38i (N := N) d hf hN hu hun hW hg lS lE k hkC (lC C k).2 0 V _ rfl (by omega) hV C4 (by rw [lk_s C3, lk_s hc]; exact l0) (by rw [lk_s C3, lk_s hc]; exact l1) (by rw [lk_s C3, lk_s hc]; exact l2) (by rw [lk_s C3, lk_s hc]; rfl) (by rw [lk_s C3, show (stC C k : Int) + ((0 : Nat) : Int) = (stC C k : Int) by omega]; rfl)
    have e0 : ntI 0 (lC C k).2 (V, false) = ntA (lC C k).2 (V, false) := rfl
    rw [e0] at q1 q2
    cases hz : (ntA (lC C k).2 (V, false)).2 with
    | true =>
      have e2 := ntC_t (l := C.drop (k + 1)) hz
      refine ⟨fun z => ?_, fun _ => ?_⟩
      · rw [e2] at z
        cases z
      · obtain ⟨V', d1, d2⟩ := q2 hz
        exact ⟨V', d1, g19 _ d2⟩
    | false =>
      obtain ⟨lv', c', j0, j1, j2, g⟩ := q1 hz
      have hV' : UOK (ntA (lC C k).2 (V, false)).1 := ntA_uk hV
      have ez : ntA (lC C k).2 (V, false) = ((ntA (lC C k).2 (V, false)).1, false) := pairF hz
      obtain ⟨V1, hV1⟩ : ∃ V1, V1 = (ntA (lC C k).2 (V, false)).1 := ⟨_, rfl⟩
      rw [← hV1] at ez hV' g
      rw [ez]
      have C2 := c1_st (i := 2) (v := .int (iZ ((k : Int) + 1))) rfl c'
      have g2 : ∀ res, Gx q_k38 (d + 1) 2 ((2, .int (iZ ((k : Int) + 1))) :: lv'.filter (x_keep 2), [], hp (uH w u (cI 0 V1)) N) res → Gx q_k38 (d + 1) 111 (lv', [], hp (uH w u (cI 0 V1)) N) res := fun res hres => by
        refine Gx.run 10 Cs.tt (fun X _ => ?_) (Gx.run (pc := 114) (z := ((2, .int (iZ ((k : Int) + 1))) :: lv'.filter (x_keep 2), [], hp (uH w u (cI 0 V1)) N)) 5 Cs.tt (fun X _ => ?_) hres)
        · simp (disch := first | (refine c1_id ?_; assumption) | (refine c1_st rfl ?_; repeat (first | assumption | refine c1_st rfl ?_)) | omega) [nx_l, nx_r, nx_n, x_st, x_push, x_bin, x_div, x_un, x_dup, x_pop, x_dup2, x_goto, x_ifeq, x_ifne, x_iflt, x_ifge, x_ifgt, x_ifle, x_iceq, x_icne, x_iclt, x_icge, x_icgt, x_icle, x_ifnull, x_ifnonnull, x_ldi, x_lda, x_sti, x_sta, x_iinc, x_gf, x_pf, x_ald, x_ast, x_aln, x_len, x_cl_, x_cv, x_cs, x_rc, x_r0, x_isT, x_oi, x_rv, x_ri, x_ra, Value.category, t38_0, t38_1, t38_2, t38_3, t38_4, t38_7, t38_10, t38_11, t38_12, t38_15, t38_16, t38_17, t38_19, t38_21, t38_22, t38_25, t38_26, t38_27, t38_30, t38_31, t38_34, t38_36, t38_37, t38_39, t38_41, t38_44, t38_46, t38_47, t38_49, t38_52, t38_53, t38_55, t38_56, t38_59, t38_60, t38_63, t38_64, t38_65, t38_67, t38_69, t38_71, t38_74, t38_75, t38_77, t38_78, t38_81, t38_82, t38_84, t38_85, t38_87, t38_90, t38_91, t38_92, t38_94, t38_96, t38_99, t38_100, t38_102, t38_104, t38_105, t38_108, t38_111, t38_114, t38_117, t38_118, lk_s, hp_get, hp_set, uH_at, uH_ne, uH_upd, uH_swap, iZ_add, iZ_sub, iZ_mul, iZ_neg, iZ_lt, iZ_le, iZ_eq, iZ_div, iZ_of, ix_Z, gZ_map, gZ_mapI, gZ_map', le_0, le_s, sZ_map, sZ_len, bZ_0, bZ_inj, bZ_t, bZ_f, nr_i, nr_0, nr_1, nr_b, ft_i, ft_b, ft_0, ft_1, zl_0, zl_1, zl_4, zl_26, j2, -List.filter_filter, -List.getElem?_map, -List.getD_eq_getElem?_getD]
        · simp (disch := first | (refine c1_id ?_; assumption) | (refine c1_st rfl ?_; repeat (first | assumption | refine c1_st rfl ?_)) | omega) [nx_l, nx_r, nx_n, x_st, x_push, x_bin, x_div, x_un, x_dup, x_pop, x_dup2, x_goto, x_ifeq, x_ifne, x_iflt, x_ifge, x_ifgt, x_ifle, x_iceq, x_icne, x_iclt, x_icge, x_icgt, x_icle, x_ifnull, x_ifnonnull, x_ldi, x_lda, x_sti, x_sta, x_iinc, x_gf, x_pf, x_ald, x_ast, x_aln, x_len, x_cl_, x_cv, x_cs, x_rc, x_r0, x_isT, x_oi, x_rv, x_ri, x_ra, Value.category, t38_0, t38_1, t38_2, t38_3, t38_4, t38_7, t38_10, t38_11, t38_12, t38_15, t38_16, t38_17, t38_19, t38_21, t38_22, t38_25, t38_26, t38_27, t38_30, t38_31, t38_34, t38_36, t38_37, t38_39, t38_41, t38_44, t38_46, t38_47, t38_49, t38_52, t38_53, t38_55, t38_56, t38_59, t38_60, t38_63, t38_64, t38_65, t38_67, t38_69, t38_71, t38_74, t38_75, t38_77, t38_78, t38_81, t38_82, t38_84, t38_85, t38_87, t38_90, t38_91, t38_92, t38_94, t38_96, t38_99, t38_100, t38_102, t38_104, t38_105, t38_108, t38_111, t38_114, t38_117, t38_118, lk_s, hp_get, hp_set, uH_at, uH_ne, uH_upd, uH_swap, iZ_add, iZ_sub, iZ_mul, iZ_neg, iZ_lt, iZ_le, iZ_eq, iZ_div, iZ_of, ix_Z, gZ_map, gZ_mapI, gZ_map', le_0, le_s, sZ_map, sZ_len, bZ_0, bZ_inj, bZ_t, bZ_f, nr_i, nr_0, nr_1, nr_b, ft_i, ft_b, ft_0, ft_1, zl_0, zl_1, zl_4, zl_26, -List.filter_filter, -List.getElem?_map, -List.getD_eq_getElem?_getD]
      obtain ⟨r1, r2⟩ := ih (k + 1) V1 ((2, .int (iZ ((k : Int) + 1))) :: lv'.filter (x_keep 2)) (by omega) hV' C2 (by rw [lk_s c']; exact j0) (by rw [lk_s c']; exact j1) (by rw [lk_s c']; rfl)
      refine ⟨fun z => g19 _ (g _ (g2 _ (r1 z))), fun z => ?_⟩
      obtain ⟨V', d1, d2⟩ := r2 z
      exact ⟨V', d1, g19 _ (g _ (g2 _ d2))⟩
theorem m38 (d : Nat) {l : Int} (hf : fo w a S E B C.length l o) (hN : fN N a S E B) (hu : u < a ∨ a + 3 < u) (hun : u < N) (hW : FW C S E B) (hg : gV C) (lS : (flt C).length ≤ S.length) (lE : C.length ≤ E.length) {V : List Int} (hV : UOK V) (hw : w u = cI 0 V) :
    ((ntC C (V, false)).2 = false → Xc (d + 2) 38 [.ref (a + 3), .ref (u + 3)] (hp w N) (some (.int (iZ 1)), hp (uH w u (cI 0 (ntC C (V, false)).1)) N)) ∧
    ((ntC C (V, false)).2 = true → ∃ V', UOK V' ∧ Xc (d + 2) 38 [.ref (a + 3), .ref (u + 3)] (hp w N) (some (.int (iZ 0)), hp (uH w u (cI 0 V')) N)) := by
  have ew : uH w u (cI 0 V) = w := uH_self hw
  have hc : c1 (lv_args 0 [.ref (a + 3), .ref (u + 3)]) := by simp [c1, lv_args, Value.category]
  have l0 : x_lk (lv_args 0 [.ref (a + 3), .ref (u + 3)]) 0 = some (.ref (a + 3)) := rfl
  have l1 : x_lk (lv_args 0 [.ref (a + 3), .ref (u + 3)]) 1 = some (.ref (u + 3)) := rfl
  have C2 := c1_st (i := 2) (v := .int (iZ 0)) rfl hc
  obtain ⟨r1, r2⟩ := l38 (N := N) d hf hN hu hun hW hg lS lE C.length 0 V ((2, .int (iZ 0)) :: List.filter (x_keep 2) (lv_args 0 [.ref (a + 3), .ref (u + 3)])) (by omega) hV C2 (by rw [lk_s hc]; exact l0) (by rw [lk_s hc]; exact l1) (by rw [lk_s hc]; rfl)
  rw [ew, List.drop_zero] at r1 r2
  have g0 : ∀ res, Gx q_k38 (d + 1) 2 ((2, .int (iZ 0)) :: List.filter (x_keep 2) (lv_args 0 [.ref (a + 3), .ref (u + 3)]), [], hp w N) res → Gx q_k38 (d + 1) 0 (lv_args 0 [.ref (a + 3), .ref (u + 3)], [], hp w N) res := fun res hres => by
    generalize lv_args 0 [.ref (a + 3), .ref (u + 3)] = lv at hc hres ⊢
    refine Gx.run 10 Cs.tt (fun X _ => ?_) hres
    simp (disch := first | (refine c1_id ?_; assumption) | (refine c1_st rfl ?_; repeat (first | assumption | refine c1_st rfl ?_)) | omega) [nx_l, nx_r, nx_n, x_st, x_push, x_bin, x_div, x_un, x_dup, x_pop, x_dup2, x_goto, x_ifeq, x_ifne, x_iflt, x_ifge, x_ifgt, x_ifle, x_iceq, x_icne, x_iclt, x_icge, x_icgt, x_icle, x_ifnull, x_ifnonnull, x_ldi, x_lda, x_sti, x_sta, x_iinc, x_gf, x_pf, x_ald, x_ast, x_aln, x_len, x_cl_, x_cv, x_cs, x_rc, x_r0, x_isT, x_oi, x_rv, x_ri, x_ra, Value.category, t38_0, t38_1, t38_2, t38_3, t38_4, t38_7, t38_10, t38_11, t38_12, t38_15, t38_16, t38_17, t38_19, t38_21, t38_22, t38_25, t38_26, t38_27, t38_30, t38_31, t38_34, t38_36, t38_37, t38_39, t38_41, t38_44, t38_46, t38_47, t38_49, t38_52, t38_53, t38_55, t38_56, t38_59, t38_60, t38_63, t38_64, t38_65, t38_67, t38_69, t38_71, t38_74, t38_75, t38_77, t38_78, t38_81, t38_82, t38_84, t38_85, t38_87, t38_90, t38_91, t38_92, t38_94, t38_96, t38_99, t38_100, t38_102, t38_104, t38_105, t38_108, t38_111, t38_114, t38_117, t38_118, lk_s, hp_get, hp_set, uH_at, uH_ne, uH_upd, uH_swap, iZ_add, iZ_sub, iZ_mul, iZ_neg, iZ_lt, iZ_le, iZ_eq, iZ_div, iZ_of, ix_Z, gZ_map, gZ_mapI, gZ_map', le_0, le_s, sZ_map, sZ_len, bZ_0, bZ_inj, bZ_t, bZ_f, nr_i, nr_0, nr_1, nr_b, ft_i, ft_b, ft_0, ft_1, zl_0, zl_1, zl_4, zl_26, -List.filter_filter, -List.getElem?_map, -List.getD_eq_getElem?_getD]
  have v26 : ∀ {V' : List Int}, UOK V' → x_le (hp w N) (hp (uH w u (cI 0 V')) N) := fun {V'} h => hp_up (by rw [hw]; simp [x_c1, hV.1, h.1])
  refine ⟨fun z => Xc.of rfl (by simp [lg_sl, Value.category]) (g0 _ (r1 z)) (v26 (ntC_uk hV)), fun z => ?_⟩
  obtain ⟨V', d1, d2⟩ := r2 z
  exact ⟨V', d1, Xc.of rfl (by simp [lg_sl, Value.category]) (g0 _ d2) (v26 d1)⟩
theorem cpy26 {U V : List Int} (hU : U.length = 26) (hV : V.length = 26) : x_cpy (U.map iZ) (V.map iZ) 0 0 26 = U.map iZ := by
  unfold x_cpy
  apply List.ext_getElem
  · simp [hU, hV]
  · intro i h1 h2
    simp only [List.length_mapIdx, List.length_map] at h1
    rw [List.getElem_mapIdx, if_pos (by omega), Nat.sub_zero, Nat.zero_add, List.getD_eq_getElem?_getD, List.getElem?_eq_getElem (by simp; omega)]
    rfl
theorem acp26 {U V : List Int} (hU : U.length = 26) (hV : V.length = 26) (h5 : w 5 = cI 0 U) (h6 : w 6 = cI 0 V) (hN : 53 ≤ N) (K : xF) (lv : xL) : x_acp 15 0 K (lv, [.int (iZ 26), .int (iZ 0), .ref 9, .int (iZ 0), .ref 8], hp w N) = some (.inl (15, lv, [], hp (uH w 6 (cI 0 U)) N)) := by
  have e1 : (hp w N)[5]? = some (cI 0 U) := by rw [hp_get (by omega), h5]
  have e2 : (hp w N)[6]? = some (cI 0 V) := by rw [hp_get (by omega), h6]
  have z0 : ¬ iZ 0 < 0 := by decide
  have z1 : ¬ iZ 26 < 0 := by decide
  have z2 : (iZ 0).toNatClampNeg = 0 := by decide
  have z3 : (iZ 26).toNatClampNeg = 26 := by decide
  show (match (hp w N)[5]?, (hp w N)[6]? with
    | some (.inl (ta, .inl xs)), some (.inl (tb, .inl ys)) => _
    | _, _ => _) = _
  rw [e1, e2]
  dsimp only
  rw [z2, z3, if_pos ⟨rfl, rfl, z0, z0, z1, by simp [hU], by simp [hV], by simp⟩, cpy26 hU hV, hp_set]
theorem m36 (d : Nat) (hN : 53 ≤ N) (h4 : w 4 = .inr (7, [.ref 8, .ref 9])) {U V : List Int} (hU : UOK U) (hV : V.length = 26) (h5 : w 5 = cI 0 U) (h6 : w 6 = cI 0 V) (hL : LA w 7 C) :
    ∃ V', V'.length = 26 ∧ Xc (d + 3) 36 [.ref 7, .ref 10] (hp w N) (some (.int (iZ (bZ (!(ntC C (U, false)).2)))), hp (uH w 6 (cI 0 V')) N) := by
  obtain ⟨S, E, B, o, f1, f2, f3, f4, f5, f6, f7, f8⟩ := hL
  obtain ⟨w1, hw1⟩ : ∃ w1, w1 = uH w 6 (cI 0 U) := ⟨_, rfl⟩
  have k4 : w1 4 = .inr (7, [.ref 8, .ref 9]) := by rw [hw1, uH_ne (by decide)]; exact h4
  obtain ⟨r1, r2⟩ := m38 (w := w1) (a := 7) (u := 6) (N := N) (V := U) d (by rw [hw1]; exact f1.upO (Or.inl (by decide))) ⟨by omega, by omega, by omega, by omega⟩ (Or.inl (by decide)) (by omega) f5 f6 (by omega) (by omega) hU (by rw [hw1, uH_at])
  have A := fun K lv => acp26 (w := w) (N := N) hU.1 hV h5 h6 hN K lv
  rw [← hw1] at A
  have gg : ∀ (V' : List Int) (b : Int), Xc (d + 2) 38 [.ref 10, .ref 9] (hp w1 N) (some (.int (iZ b)), hp (uH w1 6 (cI 0 V')) N) → (b = 0 ∨ b = 1) → V'.length = 26 → Xc (d + 3) 36 [.ref 7, .ref 10] (hp w N) (some (.int (iZ b)), hp (uH w 6 (cI 0 V')) N) := fun V' b X hb hl => by
    rw [hw1, uH_upd] at X
    refine Xc.of rfl (by simp [lg_sl, Value.category]) ?_ (hp_up (by rw [h6]; simp [x_c1, hV, hl]))
    have hc : c1 (lv_args 0 [.ref 7, .ref 10]) := by simp [c1, lv_args, Value.category]
    have l0 : x_lk (lv_args 0 [.ref 7, .ref 10]) 0 = some (.ref 7) := rfl
    have l1 : x_lk (lv_args 0 [.ref 7, .ref 10]) 1 = some (.ref 10) := rfl
    generalize lv_args 0 [.ref 7, .ref 10] = lv at hc l0 l1
    refine Gx.fin 20 X (fun K mm => ?_)
    rw [← hw1] at mm
    rcases hb with rfl | rfl
    · simp (disch := first | (refine c1_id ?_; assumption) | (refine c1_st rfl ?_; repeat (first | assumption | refine c1_st rfl ?_)) | omega) [nx_l, nx_r, nx_n, x_st, x_push, x_bin, x_div, x_un, x_dup, x_pop, x_dup2, x_goto, x_ifeq, x_ifne, x_iflt, x_ifge, x_ifgt, x_ifle, x_iceq, x_icne, x_iclt, x_icge, x_icgt, x_icle, x_ifnull, x_ifnonnull, x_ldi, x_lda, x_sti, x_sta, x_iinc, x_gf, x_pf, x_ald, x_ast, x_aln, x_len, x_cl_, x_cv, x_cs, x_rc, x_r0, x_isT, x_oi, x_rv, x_ri, x_ra, Value.category, t36_0, t36_1, t36_4, t36_5, t36_6, t36_9, t36_10, t36_12, t36_15, t36_16, t36_17, t36_20, t36_23, lk_s, hp_get, hp_set, uH_at, uH_ne, uH_upd, uH_swap, iZ_add, iZ_sub, iZ_mul, iZ_neg, iZ_lt, iZ_le, iZ_eq, iZ_div, iZ_of, ix_Z, gZ_map, gZ_mapI, gZ_map', le_0, le_s, sZ_map, sZ_len, bZ_0, bZ_inj, bZ_t, bZ_f, nr_i, nr_0, nr_1, nr_b, ft_i, ft_b, ft_0, ft_1, zl_0, zl_1, zl_26, l0, l1, h4, k4, A, mm, -List.filter_filter, -List.getElem?_map, -List.getD_eq_getElem?_getD]
    · simp (disch := first | (refine c1_id ?_; assumption) | (refine c1_st rfl ?_; repeat (first | assumption | refine c1_st rfl ?_)) | omega) [nx_l, nx_r, nx_n, x_st, x_push, x_bin, x_div, x_un, x_dup, x_pop, x_dup2, x_goto, x_ifeq, x_ifne, x_iflt, x_ifge, x_ifgt, x_ifle, x_iceq, x_icne, x_iclt, x_icge, x_icgt, x_icle, x_ifnull, x_ifnonnull, x_ldi, x_lda, x_sti, x_sta, x_iinc, x_gf, x_pf, x_ald, x_ast, x_aln, x_len, x_cl_, x_cv, x_cs, x_rc, x_r0, x_isT, x_oi, x_rv, x_ri, x_ra, Value.category, t36_0, t36_1, t36_4, t36_5, t36_6, t36_9, t36_10, t36_12, t36_15, t36_16, t36_17, t36_20, t36_23, lk_s, hp_get, hp_set, uH_at, uH_ne, uH_upd, uH_swap, iZ_add, iZ_sub, iZ_mul, iZ_neg, iZ_lt, iZ_le, iZ_eq, iZ_div, iZ_of, ix_Z, gZ_map, gZ_mapI, gZ_map', le_0, le_s, sZ_map, sZ_len, bZ_0, bZ_inj, bZ_t, bZ_f, nr_i, nr_0, nr_1, nr_b, ft_i, ft_b, ft_0, ft_1, zl_0, zl_1, zl_26, l0, l1, h4, k4, A, mm, -List.filter_filter, -List.getElem?_map, -List.getD_eq_getElem?_getD]
  cases hz : (ntC C (U, false)).2 with
  | false => exact ⟨_, (ntC_uk hU).1, gg _ 1 (r1 hz) (Or.inr rfl) (ntC_uk hU).1⟩
  | true =>
    obtain ⟨V', d1, d2⟩ := r2 hz
    exact ⟨V', d1.1, gg _ 0 d2 (Or.inl rfl) d1.1⟩
theorem m37 (d : Nat) (hN : 53 ≤ N) (h4 : w 4 = .inr (7, [.ref 8, .ref 9])) {U : List Int} (hU : UOK U) (h5 : w 5 = cI 0 U) {l : Int} (hf : fo w a S E B C.length l o) (hfN : fN N a S E B) (ha : 5 < a) (hW : FW C S E B) (hg : gV C) (lS : (flt C).length ≤ S.length) (lE : C.length ≤ E.length) (ok : (ntC C (U, false)).2 = false) : Xc (d + 3) 37 [.ref 7, .ref (a + 3)] (hp w N) (none, hp (uH w 5 (cI 0 (ntC C (U, false)).1)) N) := by
  obtain ⟨r1, r2⟩ := m38 (w := w) (u := 5) (N := N) (V := U) d hf hfN (Or.inl ha) (by omega) hW hg lS lE hU h5
  have X := r1 ok
  have na := hfN.1
  refine Xc.of rfl (by simp [lg_sl, Value.category]) ?_ (hp_up (by rw [h5]; simp [x_c1, hU.1, (ntC_uk (l := C) (z := (U, false)) hU).1]))
  have hc : c1 (lv_args 0 [.ref 7, .ref (a + 3)]) := by simp [c1, lv_args, Value.category]
  have l0 : x_lk (lv_args 0 [.ref 7, .ref (a + 3)]) 0 = some (.ref 7) := rfl
  have l1 : x_lk (lv_args 0 [.ref 7, .ref (a + 3)]) 1 = some (.ref (a + 3)) := rfl
  generalize lv_args 0 [.ref 7, .ref (a + 3)] = lv at hc l0 l1
  refine Gx.fin 20 X (fun K mm => ?_)
  simp (disch := first | (refine c1_id ?_; assumption) | (refine c1_st rfl ?_; repeat (first | assumption | refine c1_st rfl ?_)) | omega) [nx_l, nx_r, nx_n, x_st, x_push, x_bin, x_div, x_un, x_dup, x_pop, x_dup2, x_goto, x_ifeq, x_ifne, x_iflt, x_ifge, x_ifgt, x_ifle, x_iceq, x_icne, x_iclt, x_icge, x_icgt, x_icle, x_ifnull, x_ifnonnull, x_ldi, x_lda, x_sti, x_sta, x_iinc, x_gf, x_pf, x_ald, x_ast, x_aln, x_len, x_cl_, x_cv, x_cs, x_rc, x_r0, x_isT, x_oi, x_rv, x_ri, x_ra, Value.category, t37_0, t37_1, t37_2, t37_5, t37_8, t37_9, lk_s, hp_get, hp_set, uH_at, uH_ne, uH_upd, uH_swap, iZ_add, iZ_sub, iZ_mul, iZ_neg, iZ_lt, iZ_le, iZ_eq, iZ_div, iZ_of, ix_Z, gZ_map, gZ_mapI, gZ_map', le_0, le_s, sZ_map, sZ_len, bZ_0, bZ_inj, bZ_t, bZ_f, nr_i, nr_0, nr_1, nr_b, ft_i, ft_b, ft_0, ft_1, zl_0, zl_1, l0, l1, h4, mm, -List.filter_filter, -List.getElem?_map, -List.getD_eq_getElem?_getD]
end UT
